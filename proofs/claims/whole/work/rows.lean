section
-- ===== PART A: goes FIRST, ahead of the names: the tables' words, and 'selects' of the private methods out of them =====
/-- a private method of a class that the tables say can be made, by its rows of tables_1 -/
def lw_okq (q : MethodName × Nat) : Prop := (q.1.cls ≠ "java/lang/invoke/MethodHandle" ∧ q.1.cls ≠ "java/lang/invoke/VarHandle") ∧ Cond.instantiable q.1.cls q.2 ∈ tables_1 ∧ Cond.privateMethod q.1 ∈ tables_1 ∧ Cond.instanceMethod q.1 ∈ tables_1
theorem lw_p0 : lw_okq (⟨"java/lang/Throwable", "fillInStackTrace", "(I)Ljava/lang/Throwable;"⟩, 6) := ⟨⟨by decide +kernel, by decide +kernel⟩, List.mem_of_getElem? (i := 149) (by decide +kernel), List.mem_of_getElem? (i := 147) (by decide +kernel), List.mem_of_getElem? (i := 148) (by decide +kernel)⟩
theorem lw_p1 : lw_okq (⟨"WitchTrial", "forgetVotes", "()V"⟩, 14) := ⟨⟨by decide +kernel, by decide +kernel⟩, List.mem_of_getElem? (i := 15) (by decide +kernel), List.mem_of_getElem? (i := 179) (by decide +kernel), List.mem_of_getElem? (i := 180) (by decide +kernel)⟩
theorem lw_p2 : lw_okq (⟨"WitchTrial", "forgetChoices", "()V"⟩, 14) := ⟨⟨by decide +kernel, by decide +kernel⟩, List.mem_of_getElem? (i := 15) (by decide +kernel), List.mem_of_getElem? (i := 186) (by decide +kernel), List.mem_of_getElem? (i := 187) (by decide +kernel)⟩
theorem lw_p3 : lw_okq (⟨"WitchTrial$Book", "open", "(II)V"⟩, 2) := ⟨⟨by decide +kernel, by decide +kernel⟩, List.mem_of_getElem? (i := 23) (by decide +kernel), List.mem_of_getElem? (i := 193) (by decide +kernel), List.mem_of_getElem? (i := 194) (by decide +kernel)⟩
theorem lw_p4 : lw_okq (⟨"WitchTrial$Book", "addWorlds", "(III)I"⟩, 2) := ⟨⟨by decide +kernel, by decide +kernel⟩, List.mem_of_getElem? (i := 23) (by decide +kernel), List.mem_of_getElem? (i := 203) (by decide +kernel), List.mem_of_getElem? (i := 204) (by decide +kernel)⟩
theorem lw_p5 : lw_okq (⟨"WitchTrial", "knownBits", "(I)I"⟩, 14) := ⟨⟨by decide +kernel, by decide +kernel⟩, List.mem_of_getElem? (i := 15) (by decide +kernel), List.mem_of_getElem? (i := 209) (by decide +kernel), List.mem_of_getElem? (i := 210) (by decide +kernel)⟩
theorem lw_p6 : lw_okq (⟨"WitchTrial", "isWitch", "(I)Z"⟩, 14) := ⟨⟨by decide +kernel, by decide +kernel⟩, List.mem_of_getElem? (i := 15) (by decide +kernel), List.mem_of_getElem? (i := 216) (by decide +kernel), List.mem_of_getElem? (i := 217) (by decide +kernel)⟩
theorem lw_p7 : lw_okq (⟨"WitchTrial$Book", "count", "(I)I"⟩, 2) := ⟨⟨by decide +kernel, by decide +kernel⟩, List.mem_of_getElem? (i := 23) (by decide +kernel), List.mem_of_getElem? (i := 220) (by decide +kernel), List.mem_of_getElem? (i := 221) (by decide +kernel)⟩
theorem lw_p8 : lw_okq (⟨"WitchTrial$Book", "agrees", "(II)Z"⟩, 2) := ⟨⟨by decide +kernel, by decide +kernel⟩, List.mem_of_getElem? (i := 23) (by decide +kernel), List.mem_of_getElem? (i := 224) (by decide +kernel), List.mem_of_getElem? (i := 225) (by decide +kernel)⟩
theorem lw_p9 : lw_okq (⟨"WitchTrial", "requireGame", "()V"⟩, 14) := ⟨⟨by decide +kernel, by decide +kernel⟩, List.mem_of_getElem? (i := 15) (by decide +kernel), List.mem_of_getElem? (i := 238) (by decide +kernel), List.mem_of_getElem? (i := 239) (by decide +kernel)⟩
theorem lw_p10 : lw_okq (⟨"WitchTrial", "requirePlayer", "(I)V"⟩, 14) := ⟨⟨by decide +kernel, by decide +kernel⟩, List.mem_of_getElem? (i := 15) (by decide +kernel), List.mem_of_getElem? (i := 258) (by decide +kernel), List.mem_of_getElem? (i := 259) (by decide +kernel)⟩
theorem lw_p11 : lw_okq (⟨"WitchTrial", "makeClaim", "(IIZ)I"⟩, 14) := ⟨⟨by decide +kernel, by decide +kernel⟩, List.mem_of_getElem? (i := 15) (by decide +kernel), List.mem_of_getElem? (i := 285) (by decide +kernel), List.mem_of_getElem? (i := 286) (by decide +kernel)⟩
theorem lw_p12 : lw_okq (⟨"WitchTrial", "isAlive", "(I)Z"⟩, 14) := ⟨⟨by decide +kernel, by decide +kernel⟩, List.mem_of_getElem? (i := 15) (by decide +kernel), List.mem_of_getElem? (i := 289) (by decide +kernel), List.mem_of_getElem? (i := 290) (by decide +kernel)⟩
theorem lw_p13 : lw_okq (⟨"WitchTrial$Book", "allowsClaim", "(IIZ)Z"⟩, 2) := ⟨⟨by decide +kernel, by decide +kernel⟩, List.mem_of_getElem? (i := 23) (by decide +kernel), List.mem_of_getElem? (i := 293) (by decide +kernel), List.mem_of_getElem? (i := 294) (by decide +kernel)⟩
theorem lw_p14 : lw_okq (⟨"WitchTrial$Book", "keepClaim", "(IIZ)V"⟩, 2) := ⟨⟨by decide +kernel, by decide +kernel⟩, List.mem_of_getElem? (i := 23) (by decide +kernel), List.mem_of_getElem? (i := 317) (by decide +kernel), List.mem_of_getElem? (i := 318) (by decide +kernel)⟩
theorem lw_p15 : lw_okq (⟨"WitchTrial", "requirePhase", "(I)V"⟩, 14) := ⟨⟨by decide +kernel, by decide +kernel⟩, List.mem_of_getElem? (i := 15) (by decide +kernel), List.mem_of_getElem? (i := 336) (by decide +kernel), List.mem_of_getElem? (i := 337) (by decide +kernel)⟩
def lw_privs_1 : List (MethodName × Nat) := [(⟨"java/lang/Throwable", "fillInStackTrace", "(I)Ljava/lang/Throwable;"⟩, 6), (⟨"WitchTrial", "forgetVotes", "()V"⟩, 14), (⟨"WitchTrial", "forgetChoices", "()V"⟩, 14), (⟨"WitchTrial$Book", "open", "(II)V"⟩, 2), (⟨"WitchTrial$Book", "addWorlds", "(III)I"⟩, 2), (⟨"WitchTrial", "knownBits", "(I)I"⟩, 14), (⟨"WitchTrial", "isWitch", "(I)Z"⟩, 14), (⟨"WitchTrial$Book", "count", "(I)I"⟩, 2), (⟨"WitchTrial$Book", "agrees", "(II)Z"⟩, 2), (⟨"WitchTrial", "requireGame", "()V"⟩, 14), (⟨"WitchTrial", "requirePlayer", "(I)V"⟩, 14), (⟨"WitchTrial", "makeClaim", "(IIZ)I"⟩, 14), (⟨"WitchTrial", "isAlive", "(I)Z"⟩, 14), (⟨"WitchTrial$Book", "allowsClaim", "(IIZ)Z"⟩, 2), (⟨"WitchTrial$Book", "keepClaim", "(IIZ)V"⟩, 2), (⟨"WitchTrial", "requirePhase", "(I)V"⟩, 14)]
theorem lw_r1 : ∀ q ∈ lw_privs_1, lw_okq q := List.forall_mem_cons.mpr ⟨lw_p0, List.forall_mem_cons.mpr ⟨lw_p1, List.forall_mem_cons.mpr ⟨lw_p2, List.forall_mem_cons.mpr ⟨lw_p3, List.forall_mem_cons.mpr ⟨lw_p4, List.forall_mem_cons.mpr ⟨lw_p5, List.forall_mem_cons.mpr ⟨lw_p6, List.forall_mem_cons.mpr ⟨lw_p7, List.forall_mem_cons.mpr ⟨lw_p8, List.forall_mem_cons.mpr ⟨lw_p9, List.forall_mem_cons.mpr ⟨lw_p10, List.forall_mem_cons.mpr ⟨lw_p11, List.forall_mem_cons.mpr ⟨lw_p12, List.forall_mem_cons.mpr ⟨lw_p13, List.forall_mem_cons.mpr ⟨lw_p14, List.forall_mem_cons.mpr ⟨lw_p15, fun _ h => absurd h List.not_mem_nil⟩⟩⟩⟩⟩⟩⟩⟩⟩⟩⟩⟩⟩⟩⟩⟩
theorem lw_p16 : lw_okq (⟨"WitchTrial", "countVotes", "(I)I"⟩, 14) := ⟨⟨by decide +kernel, by decide +kernel⟩, List.mem_of_getElem? (i := 15) (by decide +kernel), List.mem_of_getElem? (i := 342) (by decide +kernel), List.mem_of_getElem? (i := 343) (by decide +kernel)⟩
theorem lw_p17 : lw_okq (⟨"WitchTrial", "playerWithMostVotes", "()I"⟩, 14) := ⟨⟨by decide +kernel, by decide +kernel⟩, List.mem_of_getElem? (i := 15) (by decide +kernel), List.mem_of_getElem? (i := 353) (by decide +kernel), List.mem_of_getElem? (i := 354) (by decide +kernel)⟩
theorem lw_p18 : lw_okq (⟨"WitchTrial", "die", "(I)V"⟩, 14) := ⟨⟨by decide +kernel, by decide +kernel⟩, List.mem_of_getElem? (i := 15) (by decide +kernel), List.mem_of_getElem? (i := 357) (by decide +kernel), List.mem_of_getElem? (i := 358) (by decide +kernel)⟩
theorem lw_p19 : lw_okq (⟨"WitchTrial", "requireToLive", "(I)V"⟩, 14) := ⟨⟨by decide +kernel, by decide +kernel⟩, List.mem_of_getElem? (i := 15) (by decide +kernel), List.mem_of_getElem? (i := 368) (by decide +kernel), List.mem_of_getElem? (i := 369) (by decide +kernel)⟩
theorem lw_p20 : lw_okq (⟨"WitchTrial", "seerLooks", "()V"⟩, 14) := ⟨⟨by decide +kernel, by decide +kernel⟩, List.mem_of_getElem? (i := 15) (by decide +kernel), List.mem_of_getElem? (i := 397) (by decide +kernel), List.mem_of_getElem? (i := 398) (by decide +kernel)⟩
theorem lw_p21 : lw_okq (⟨"WitchTrial", "requireViewer", "(I)V"⟩, 14) := ⟨⟨by decide +kernel, by decide +kernel⟩, List.mem_of_getElem? (i := 15) (by decide +kernel), List.mem_of_getElem? (i := 436) (by decide +kernel), List.mem_of_getElem? (i := 437) (by decide +kernel)⟩
theorem lw_p22 : lw_okq (⟨"WitchTrial$Book", "countWithRole", "(III)I"⟩, 2) := ⟨⟨by decide +kernel, by decide +kernel⟩, List.mem_of_getElem? (i := 23) (by decide +kernel), List.mem_of_getElem? (i := 448) (by decide +kernel), List.mem_of_getElem? (i := 449) (by decide +kernel)⟩
theorem lw_p23 : lw_okq (⟨"WitchTrial$Book", "witchesInAll", "(I)I"⟩, 2) := ⟨⟨by decide +kernel, by decide +kernel⟩, List.mem_of_getElem? (i := 23) (by decide +kernel), List.mem_of_getElem? (i := 461) (by decide +kernel), List.mem_of_getElem? (i := 462) (by decide +kernel)⟩
theorem lw_p24 : lw_okq (⟨"WitchTrial$Book", "witchesInAny", "(I)I"⟩, 2) := ⟨⟨by decide +kernel, by decide +kernel⟩, List.mem_of_getElem? (i := 23) (by decide +kernel), List.mem_of_getElem? (i := 472) (by decide +kernel), List.mem_of_getElem? (i := 473) (by decide +kernel)⟩
theorem lw_p25 : lw_okq (⟨"WitchTrial$Book", "countWitchSets", "(I)I"⟩, 2) := ⟨⟨by decide +kernel, by decide +kernel⟩, List.mem_of_getElem? (i := 23) (by decide +kernel), List.mem_of_getElem? (i := 483) (by decide +kernel), List.mem_of_getElem? (i := 484) (by decide +kernel)⟩
theorem lw_p26 : lw_okq (⟨"WitchTrial$Book", "contains", "(II)Z"⟩, 2) := ⟨⟨by decide +kernel, by decide +kernel⟩, List.mem_of_getElem? (i := 23) (by decide +kernel), List.mem_of_getElem? (i := 511) (by decide +kernel), List.mem_of_getElem? (i := 512) (by decide +kernel)⟩
theorem lw_p27 : lw_okq (⟨"WitchTrialModel", "forgets", "()V"⟩, 16) := ⟨⟨by decide +kernel, by decide +kernel⟩, List.mem_of_getElem? (i := 515) (by decide +kernel), List.mem_of_getElem? (i := 591) (by decide +kernel), List.mem_of_getElem? (i := 592) (by decide +kernel)⟩
theorem lw_p28 : lw_okq (⟨"WitchTrialModel", "manyOpen", "()I"⟩, 16) := ⟨⟨by decide +kernel, by decide +kernel⟩, List.mem_of_getElem? (i := 515) (by decide +kernel), List.mem_of_getElem? (i := 595) (by decide +kernel), List.mem_of_getElem? (i := 596) (by decide +kernel)⟩
theorem lw_p29 : lw_okq (⟨"WitchTrialModel", "isPlayer", "(I)Z"⟩, 16) := ⟨⟨by decide +kernel, by decide +kernel⟩, List.mem_of_getElem? (i := 515) (by decide +kernel), List.mem_of_getElem? (i := 607) (by decide +kernel), List.mem_of_getElem? (i := 608) (by decide +kernel)⟩
theorem lw_p30 : lw_okq (⟨"WitchTrialModel", "truth", "()I"⟩, 16) := ⟨⟨by decide +kernel, by decide +kernel⟩, List.mem_of_getElem? (i := 515) (by decide +kernel), List.mem_of_getElem? (i := 611) (by decide +kernel), List.mem_of_getElem? (i := 612) (by decide +kernel)⟩
theorem lw_p31 : lw_okq (⟨"WitchTrialModel", "may", "(IZ)Z"⟩, 16) := ⟨⟨by decide +kernel, by decide +kernel⟩, List.mem_of_getElem? (i := 515) (by decide +kernel), List.mem_of_getElem? (i := 621) (by decide +kernel), List.mem_of_getElem? (i := 622) (by decide +kernel)⟩
def lw_privs_2 : List (MethodName × Nat) := [(⟨"WitchTrial", "countVotes", "(I)I"⟩, 14), (⟨"WitchTrial", "playerWithMostVotes", "()I"⟩, 14), (⟨"WitchTrial", "die", "(I)V"⟩, 14), (⟨"WitchTrial", "requireToLive", "(I)V"⟩, 14), (⟨"WitchTrial", "seerLooks", "()V"⟩, 14), (⟨"WitchTrial", "requireViewer", "(I)V"⟩, 14), (⟨"WitchTrial$Book", "countWithRole", "(III)I"⟩, 2), (⟨"WitchTrial$Book", "witchesInAll", "(I)I"⟩, 2), (⟨"WitchTrial$Book", "witchesInAny", "(I)I"⟩, 2), (⟨"WitchTrial$Book", "countWitchSets", "(I)I"⟩, 2), (⟨"WitchTrial$Book", "contains", "(II)Z"⟩, 2), (⟨"WitchTrialModel", "forgets", "()V"⟩, 16), (⟨"WitchTrialModel", "manyOpen", "()I"⟩, 16), (⟨"WitchTrialModel", "isPlayer", "(I)Z"⟩, 16), (⟨"WitchTrialModel", "truth", "()I"⟩, 16), (⟨"WitchTrialModel", "may", "(IZ)Z"⟩, 16)]
theorem lw_r2 : ∀ q ∈ lw_privs_2, lw_okq q := List.forall_mem_cons.mpr ⟨lw_p16, List.forall_mem_cons.mpr ⟨lw_p17, List.forall_mem_cons.mpr ⟨lw_p18, List.forall_mem_cons.mpr ⟨lw_p19, List.forall_mem_cons.mpr ⟨lw_p20, List.forall_mem_cons.mpr ⟨lw_p21, List.forall_mem_cons.mpr ⟨lw_p22, List.forall_mem_cons.mpr ⟨lw_p23, List.forall_mem_cons.mpr ⟨lw_p24, List.forall_mem_cons.mpr ⟨lw_p25, List.forall_mem_cons.mpr ⟨lw_p26, List.forall_mem_cons.mpr ⟨lw_p27, List.forall_mem_cons.mpr ⟨lw_p28, List.forall_mem_cons.mpr ⟨lw_p29, List.forall_mem_cons.mpr ⟨lw_p30, List.forall_mem_cons.mpr ⟨lw_p31, fun _ h => absurd h List.not_mem_nil⟩⟩⟩⟩⟩⟩⟩⟩⟩⟩⟩⟩⟩⟩⟩⟩
theorem lw_p32 : lw_okq (⟨"WitchTrialModel", "manyVotes", "(I)I"⟩, 16) := ⟨⟨by decide +kernel, by decide +kernel⟩, List.mem_of_getElem? (i := 515) (by decide +kernel), List.mem_of_getElem? (i := 633) (by decide +kernel), List.mem_of_getElem? (i := 634) (by decide +kernel)⟩
theorem lw_p33 : lw_okq (⟨"WitchTrialModel", "dies", "(I)V"⟩, 16) := ⟨⟨by decide +kernel, by decide +kernel⟩, List.mem_of_getElem? (i := 515) (by decide +kernel), List.mem_of_getElem? (i := 641) (by decide +kernel), List.mem_of_getElem? (i := 642) (by decide +kernel)⟩
theorem lw_p34 : lw_okq (⟨"WitchTrialModel", "isGame", "()Z"⟩, 16) := ⟨⟨by decide +kernel, by decide +kernel⟩, List.mem_of_getElem? (i := 515) (by decide +kernel), List.mem_of_getElem? (i := 665) (by decide +kernel), List.mem_of_getElem? (i := 666) (by decide +kernel)⟩
theorem lw_p35 : lw_okq (⟨"WitchTrialModel", "asks", "(I)Z"⟩, 16) := ⟨⟨by decide +kernel, by decide +kernel⟩, List.mem_of_getElem? (i := 515) (by decide +kernel), List.mem_of_getElem? (i := 685) (by decide +kernel), List.mem_of_getElem? (i := 686) (by decide +kernel)⟩
theorem lw_p36 : lw_okq (⟨"WitchTrialModel", "isViewer", "(I)Z"⟩, 16) := ⟨⟨by decide +kernel, by decide +kernel⟩, List.mem_of_getElem? (i := 515) (by decide +kernel), List.mem_of_getElem? (i := 689) (by decide +kernel), List.mem_of_getElem? (i := 690) (by decide +kernel)⟩
theorem lw_p37 : lw_okq (⟨"WitchTrialModel", "manyFor", "(I)I"⟩, 16) := ⟨⟨by decide +kernel, by decide +kernel⟩, List.mem_of_getElem? (i := 515) (by decide +kernel), List.mem_of_getElem? (i := 693) (by decide +kernel), List.mem_of_getElem? (i := 694) (by decide +kernel)⟩
theorem lw_p38 : lw_okq (⟨"WitchTrialModel", "isFor", "(II)Z"⟩, 16) := ⟨⟨by decide +kernel, by decide +kernel⟩, List.mem_of_getElem? (i := 515) (by decide +kernel), List.mem_of_getElem? (i := 697) (by decide +kernel), List.mem_of_getElem? (i := 698) (by decide +kernel)⟩
theorem lw_p39 : lw_okq (⟨"WitchTrialModel", "manyWith", "(III)I"⟩, 16) := ⟨⟨by decide +kernel, by decide +kernel⟩, List.mem_of_getElem? (i := 515) (by decide +kernel), List.mem_of_getElem? (i := 705) (by decide +kernel), List.mem_of_getElem? (i := 706) (by decide +kernel)⟩
theorem lw_p40 : lw_okq (⟨"WitchTrialModel", "inSome", "(IZ)I"⟩, 16) := ⟨⟨by decide +kernel, by decide +kernel⟩, List.mem_of_getElem? (i := 515) (by decide +kernel), List.mem_of_getElem? (i := 713) (by decide +kernel), List.mem_of_getElem? (i := 714) (by decide +kernel)⟩
theorem lw_p41 : lw_okq (⟨"WitchTrialModel", "laysWitches", "(I)V"⟩, 16) := ⟨⟨by decide +kernel, by decide +kernel⟩, List.mem_of_getElem? (i := 515) (by decide +kernel), List.mem_of_getElem? (i := 729) (by decide +kernel), List.mem_of_getElem? (i := 730) (by decide +kernel)⟩
def lw_privs_3 : List (MethodName × Nat) := [(⟨"WitchTrialModel", "manyVotes", "(I)I"⟩, 16), (⟨"WitchTrialModel", "dies", "(I)V"⟩, 16), (⟨"WitchTrialModel", "isGame", "()Z"⟩, 16), (⟨"WitchTrialModel", "asks", "(I)Z"⟩, 16), (⟨"WitchTrialModel", "isViewer", "(I)Z"⟩, 16), (⟨"WitchTrialModel", "manyFor", "(I)I"⟩, 16), (⟨"WitchTrialModel", "isFor", "(II)Z"⟩, 16), (⟨"WitchTrialModel", "manyWith", "(III)I"⟩, 16), (⟨"WitchTrialModel", "inSome", "(IZ)I"⟩, 16), (⟨"WitchTrialModel", "laysWitches", "(I)V"⟩, 16)]
theorem lw_r3 : ∀ q ∈ lw_privs_3, lw_okq q := List.forall_mem_cons.mpr ⟨lw_p32, List.forall_mem_cons.mpr ⟨lw_p33, List.forall_mem_cons.mpr ⟨lw_p34, List.forall_mem_cons.mpr ⟨lw_p35, List.forall_mem_cons.mpr ⟨lw_p36, List.forall_mem_cons.mpr ⟨lw_p37, List.forall_mem_cons.mpr ⟨lw_p38, List.forall_mem_cons.mpr ⟨lw_p39, List.forall_mem_cons.mpr ⟨lw_p40, List.forall_mem_cons.mpr ⟨lw_p41, fun _ h => absurd h List.not_mem_nil⟩⟩⟩⟩⟩⟩⟩⟩⟩⟩
def lw_privs : List (MethodName × Nat) := lw_privs_1 ++ (lw_privs_2 ++ (lw_privs_3))
def lw_tbl : List Cond := k2_sels lw_privs ++ tables_1
theorem lw_privs_ok : ∀ q ∈ lw_privs, lw_okq q := by
  show ∀ q ∈ lw_privs_1 ++ (lw_privs_2 ++ (lw_privs_3)), lw_okq q
  exact List.forall_mem_append.mpr ⟨lw_r1, List.forall_mem_append.mpr ⟨lw_r2, lw_r3⟩⟩
-- ===== end of PART A; then your names; then what follows =====
end
section
/-! ===== BEGIN words of one list among another's, by their places ===== -/
theorem goodIn_r {big : List Cond} (ws : List Cond) (ps : List Nat) (hp : ws = ps.filterMap (fun i => big[i]?)) (h : ws.all goodWord = true) : GoodIn big ws := by
  intro w hw
  have h1 := List.all_eq_true.mp h w hw
  rw [hp] at hw
  obtain ⟨i, -, hi⟩ := List.mem_filterMap.mp hw
  have hm : w ∈ big := by first | exact List.mem_of_getElem? hi | exact List.getElem?_mem hi
  exact ⟨hm, good_of_word h1⟩
theorem goodIn_app {big a b : List Cond} (ha : GoodIn big a) (hb : GoodIn big b) : GoodIn big (a ++ b) := fun w h => (List.mem_append.mp h).elim (ha w) (hb w)
theorem goodIn_ca {big a b : List Cond} {c : Cond} (ha : GoodIn big (c :: a)) (hb : GoodIn big b) : GoodIn big (c :: (a ++ b)) := fun w h => (List.mem_cons.mp h).elim (fun e => ha w (List.mem_cons.mpr (Or.inl e))) (fun h => (List.mem_append.mp h).elim (fun h => ha w (List.mem_cons.mpr (Or.inr h))) (hb w))
theorem goodIn_sub {big ws : List Cond} (hm : ∀ w ∈ ws, w ∈ big) (h : ws.all goodWord = true) : GoodIn big ws := fun w hw => ⟨hm w hw, good_of_word (List.all_eq_true.mp h w hw)⟩
/-! ===== END ===== -/

/-! ===== BEGIN exceptions that leave a method, and their catching by the caller (launches without stack traces) ===== -/
section VXA
/-! The laws vx_back, vx_callV, vx_callS, vx_callSW, vx_throw0, vx_throwS follow proofs of the library, with one case more: JvmDerived/Free/Laws.lean (Back.of_free), Shelf42/LK1.lean (callV, callS), Shelf/KitTraced.lean (throwNew0V, throwNewS). -/
/-- where a method has thrown q: the class by its name, the cell, what was written, the world -/
def vx_T (XC : String → State → State → Prop) (st : State) (q : Addr) (t : State) (mc ms : Nat) (free : Addr → Prop) : Prop :=
  ∃ (E : String) (ce : Cell) (L : List Loc), XC E st t ∧ t.heap[q]? = some ce ∧ ce.vm = .none ∧ st.vm.findClass E = some ce.cls ∧ st.WarmedH t.vm ∧ st.sameButNew ({ t with vm := st.vm } : State) L mc ms ∧ ∀ z ∈ L, free z.base
def vx_Q (Qc : Array Value → State → Outcome → State → Prop) (XC : String → State → State → Prop) (mc ms : Nat) (free : Addr → Prop) : Array Value → State → Outcome → State → Prop := fun a st o t =>
  (Qc a st o t ∧ ∃ L, FrameEnd st o t L mc ms ∧ ∀ q ∈ L, free q.base) ∨ ∃ q, o = .threw q ∧ vx_T XC st q t mc ms free
/-- a callee that returns or throws -/
def vx_Met (l : Launch) (y : MethodName) (ws : List Cond) (rm : Room) (Pc : Array Value → State → Prop) (Qc : Array Value → State → Outcome → State → Prop) (XC : String → State → State → Prop) (mc ms : Nat) (free : Addr → Prop) : Prop :=
  MetFree l y (headSpec ws rm) Pc (fun _ _ _ _ _ => True) (vx_Q Qc XC mc ms free)
def vx_Post (XC : String → State → State → Prop) (mc ms : Nat) (free : Addr → Prop) : Pt → Array Value → Addr → Pt → Prop := fun A a q B =>
  ∃ (g : JFrame) (mk : MethodId) (t : State) (L : List Loc) (E : String) (ce : Cell), B.U.heap = t.heap ∧ B.U.vm = t.vm ∧ XC E (A.U.calling g mk a) t ∧ t.heap[q]? = some ce ∧ ce.vm = .none ∧ A.U.vm.findClass E = some ce.cls ∧ B.locs = A.locs ++ L ∧ (∀ z ∈ L, free z.base) ∧ B.cells = A.cells + mc ∧ B.slots = A.slots + ms
def vx_Back (l : Launch) (R : Room) (p : Program) (e : Env) (below : List Frame) (s : State) (sargs : Array Value) (y : MethodName) (len W9 : Nat)
    (Pre : Pt → Array Value → Prop) (Post : Pt → Array Value → Option Value → Pt → Prop) (PostX : Pt → Array Value → Addr → Pt → Prop) : Prop :=
  ∀ (m : MethodId) (meth : Method) (c : Code) (A : Pt) (g : JFrame) (ig : Instr) (mk : MethodId) (a : Array Value),
    Stand p l e R s m sargs below meth c A.U A.locs A.cells A.slots → g.method = m → g.locals.size = c.maxLocals → decode c.code g.pc = .ok (ig, len) →
    2 * g.monitorRoom + (g.stack.map fun v => v.category).sum ≤ W9 → A.U.methodNamed? y = some mk → Pre A a →
    (∃ (v : Option Value) (B : Pt), Stand p l e R s m sargs below meth c B.U B.locs B.cells B.slots ∧ Post A a v B ∧
      Steps p.tables e below (doInvoke e (A.U.setTop g) [] mk a).1 (B.U.setTop { g with pc := g.pc + len, stack := v.toList ++ g.stack })) ∨
    (∃ (q : Addr) (B : Pt), Stand p l e R s m sargs below meth c B.U B.locs B.cells B.slots ∧ PostX A a q B ∧
      Steps p.tables e below (doInvoke e (A.U.setTop g) [] mk a).1 ((B.U.setTop g).pushFrame (.throwing q)))
section Payer
variable {l : Launch} {R : Room} {p : Program} {e : Env} {below : List Frame} {s : State} {sargs : Array Value} {y : MethodName} {len W9 : Nat}
theorem vx_back {ws : List Cond} {rm : Room} {Pc : Array Value → State → Prop} {Qc : Array Value → State → Outcome → State → Prop} {XC : String → State → State → Prop} {mc ms : Nat} {free : Addr → Prop} {bytes : ByteArray} {maxL : Nat} {ret : Option FieldType}
    (hM : vx_Met l y ws rm Pc Qc XC mc ms free) (hblind : FrameBlind Pc) (hrc : rm.cells = mc) (hrs : rm.slots = ms)
    (hframes : rm.frames + 1 ≤ R.frames) (hlocals : W9 + (maxL + 11) + rm.locals ≤ R.locals)
    (hws : ∀ w ∈ ws, ∀ a' U, s.WarmedH U.vm → w.before a' U = true) (hcode : Cond.code y bytes maxL ret ∈ ws) (hinit : ∀ a' U, s.WarmedH U.vm → (Cond.initialized y.cls).before a' U = true) :
    vx_Back l R p e below s sargs y len W9 (PreOf R mc ms Pc) (PostOf Qc mc ms free) (vx_Post XC mc ms free) := by
  intro m meth c A g ig mk a X hg hsize hdg hW hn hp
  have h1 : (headSpec ws rm).pre.before a A.U = true := atoms_intro fun w hw => hws w hw _ _ X.warmed
  have h2 : (Cond.code y bytes maxL ret).before a A.U = true := hws _ hcode _ _ X.warmed
  have h3 : (Cond.initialized y.cls).before a A.U = true := hinit _ _ X.warmed
  have h4 : A.cells + (headSpec ws rm).room.cells ≤ R.cells := by rw [show (headSpec ws rm).room.cells = mc from hrc]; exact hp.1
  have h5 : A.slots + (headSpec ws rm).room.slots ≤ R.slots := by rw [show (headSpec ws rm).room.slots = ms from hrs]; exact hp.2.1
  have hPc : Pc a (A.U.calling g mk a) := hblind _ _ _ _ hp.2.2
  obtain ⟨U, Ls, c0, s0⟩ := A
  dsimp only [Pt.U, Pt.locs, Pt.cells, Pt.slots] at h1 h2 h3 h4 h5 X hn hPc ⊢
  obtain ⟨methY, cY, hmY, hcY, -, hlY, -, -, -, -⟩ := Cond.code_spec hn h2
  obtain ⟨kY, hkY, -⟩ := className_of_methodNamed hn
  have hinitY : kY.init = .initialized := Cond.initialized_spec (findClass_of_methodNamed hn) hkY h3
  have h : At U g.method c below := by rw [hg]; exact X.here
  have hlocals9 : W9 + (maxL + 11) + (headSpec ws rm).room.locals ≤ R.locals := hlocals
  have happ : (headSpec ws rm).appliesLoose y e.platform (U.calling g mk a) = true :=
    Spec.appliesLoose_calling (g := g) h hdg hn hkY hinitY
      (X.room_calling (g := g) (R' := (headSpec ws rm).room) hsize hmY hcY hframes (by rw [hlY]; omega) h4 h5) h1
  obtain ⟨mid, hmid⟩ := h.above
  have hfr : (U.setTop g).frames = (.java g :: mid) ++ below := by rw [State.frames_setTop' g h.top, hmid]; rfl
  obtain ⟨o, s₂, hsteps, -, hend, hq⟩ := Steps.callFree hM p X.admits X.cas X.clock (acts := []) hfr happ hPc trivial
  have hq' : vx_Q Qc XC mc ms free a (U.calling g mk a) o s₂ := hq
  rw [State.frames_setTop' g h.top] at hend
  obtain ⟨g₀, hg0⟩ := Option.isSome_iff_exists.mp h.top
  obtain ⟨r, hr⟩ := State.topJava?_eq_some.mp hg0
  have hr' : (({ U with heap := s₂.heap, slotsUsed := s₂.slotsUsed } : State).setVm s₂.vm).frames = .java g₀ :: r := hr
  rcases hq' with ⟨hqc, L, hfe, hL⟩ | ⟨q, rfl, E, ce, L, hx, hce, hcv, hcl, hW₂, hsm, hL⟩
  · obtain ⟨⟨v, rfl⟩, hW₂, e2, q2, q3, q4, q5, q6⟩ := id hfe
    have e3 : s₂ = ({ (U.calling g mk a).setFrames s₂.frames with heap := s₂.heap, slotsUsed := s₂.slotsUsed } : State).setVm s₂.vm := by
      have : s₂ = ({ s₂ with vm := (U.calling g mk a).vm } : State).setVm s₂.vm := rfl
      rw [e2] at this
      exact this
    obtain ⟨c₂, i₂, len₂, hc₂, hd₂, hf₂⟩ := hend
    have hW' : U.WarmedH s₂.vm := hW₂
    have hcc : c₂ = c := by
      have h1 : s₂.code? g.method = U.code? g.method := by
        rw [State.code?_eq, State.code?_eq, hW'.alike.method?]
      exact Option.some.inj (hc₂.symm.trans (h1.trans h.code))
    subst hcc
    have hlen : len₂ = len := by rw [hdg] at hd₂; cases hd₂; rfl
    subst hlen
    have hs₂ : s₂ = (({ U with heap := s₂.heap, slotsUsed := s₂.slotsUsed } : State).setVm s₂.vm).setTop { g with pc := g.pc + len₂, stack := v.toList ++ g.stack } := by
      refine e3.trans ?_
      rw [hf₂, State.calling_eq h.top, State.setFrames_setFrames, State.setTop_of_frames _ hr', hr]
      rfl
    have hsame : U.sameButNew ({ U with heap := s₂.heap, slotsUsed := s₂.slotsUsed } : State) L mc ms := by
      refine ⟨?_, q2, q3, q4, q5, q6⟩
      obtain ⟨t, ht, -⟩ := State.frames_cons hr
      show ({ U with heap := s₂.heap, slotsUsed := s₂.slotsUsed } : State) = { U.setFrames U.frames with heap := s₂.heap, slotsUsed := s₂.slotsUsed }
      rw [State.setFrames_self ht]
    subst hg
    refine Or.inl ⟨v, ⟨(({ U with heap := s₂.heap, slotsUsed := s₂.slotsUsed } : State).setVm s₂.vm), Ls ++ L, c0 + mc, s0 + ms⟩,
      ⟨X.admits, X.cas, X.clock, X.frames, X.room, X.hears, X.method, X.code, (X.here.setHeapUsed s₂.heap s₂.slotsUsed).setVm hW'.alike, X.tail, State.WarmedH.trans X.warmed hW', X.limits, X.bytes, X.same.trans (hsame.setVm s.vm)⟩,
      ⟨g, mk, s₂, L, rfl, rfl, hqc, rfl, hL, rfl, rfl⟩, ?_⟩
    show Steps p.tables e below _ ((({ U with heap := s₂.heap, slotsUsed := s₂.slotsUsed } : State).setVm s₂.vm).setTop { g with pc := g.pc + len₂, stack := v.toList ++ g.stack })
    rw [← hs₂]
    exact hsteps
  · obtain ⟨e2, q2, q3, q4, q5, q6⟩ := id hsm
    have e3 : s₂ = ({ (U.calling g mk a).setFrames s₂.frames with heap := s₂.heap, slotsUsed := s₂.slotsUsed } : State).setVm s₂.vm := by
      have : s₂ = ({ s₂ with vm := (U.calling g mk a).vm } : State).setVm s₂.vm := rfl
      rw [e2] at this
      exact this
    have hf₂ : s₂.frames = .throwing q :: .java g :: U.frames.tail := hend
    have hW' : U.WarmedH s₂.vm := hW₂
    have hs₂ : s₂ = ((({ U with heap := s₂.heap, slotsUsed := s₂.slotsUsed } : State).setVm s₂.vm).setTop g).pushFrame (.throwing q) := by
      refine e3.trans ?_
      rw [hf₂, State.calling_eq h.top, State.setFrames_setFrames, State.pushFrame, State.frames_setTop _ hr', State.setTop_of_frames _ hr', State.setFrames_setFrames, hr]
      rfl
    have hsame : U.sameButNew ({ U with heap := s₂.heap, slotsUsed := s₂.slotsUsed } : State) L mc ms := by
      refine ⟨?_, q2, q3, q4, q5, q6⟩
      obtain ⟨t, ht, -⟩ := State.frames_cons hr
      show ({ U with heap := s₂.heap, slotsUsed := s₂.slotsUsed } : State) = { U.setFrames U.frames with heap := s₂.heap, slotsUsed := s₂.slotsUsed }
      rw [State.setFrames_self ht]
    subst hg
    refine Or.inr ⟨q, ⟨(({ U with heap := s₂.heap, slotsUsed := s₂.slotsUsed } : State).setVm s₂.vm), Ls ++ L, c0 + mc, s0 + ms⟩,
      ⟨X.admits, X.cas, X.clock, X.frames, X.room, X.hears, X.method, X.code, (X.here.setHeapUsed s₂.heap s₂.slotsUsed).setVm hW'.alike, X.tail, State.WarmedH.trans X.warmed hW', X.limits, X.bytes, X.same.trans (hsame.setVm s.vm)⟩,
      ⟨g, mk, s₂, L, E, ce, rfl, rfl, hx, hce, hcv, hcl, rfl, hL, rfl, rfl⟩, ?_⟩
    show Steps p.tables e below _ (((({ U with heap := s₂.heap, slotsUsed := s₂.slotsUsed } : State).setVm s₂.vm).setTop g).pushFrame (.throwing q))
    rw [← hs₂]
    exact hsteps
end Payer
section Calls
variable {p : Program} {l : Launch} {e : Env} {R : Room} {s : State} {m : MethodId} {args : Array Value} {below : List Frame} {meth : Method} {c : Code} {T : State} {locs : List Loc} {cells slots : Nat}
theorem vx_callV (X : Stand p l e R s m args below meth c T locs cells slots) (hexec : p.tables.exec = Jvm.exec) {own C : String} {index : Nat} {y : MethodName} {bytes : ByteArray} {maxL : Nat} {ret : Option FieldType}
    (hown : s.vm.findClass own = some m.cls) (hlink : (Cond.methodLink own index y).before args s = true) (hinst : (Cond.instanceMethod y).before args s = true) (hsel : (Cond.selects C y y).before args s = true)
    (hcode : (Cond.code y bytes maxL ret).before args s = true) (hy : y.cls ≠ "java/lang/invoke/MethodHandle" ∧ y.cls ≠ "java/lang/invoke/VarHandle")
    {W9 : Nat} {Pre : Pt → Array Value → Prop} {Post : Pt → Array Value → Option Value → Pt → Prop} {PostX : Pt → Array Value → Addr → Pt → Prop} (hK : vx_Back l R p e below s args y 3 W9 Pre Post PostX)
    {b : Addr} {cellB : Cell} (hcell : T.heap[b]? = some cellB) (hobj : cellB.vm.isStatics = false) (hcls : s.vm.findClass C = some cellB.cls)
    {g : JFrame} (hg : g.method = m) (hsize : g.locals.size = c.maxLocals) {argsL rest : List Value} (hlen : ∀ sig, parseMethodDescriptor y.desc = some sig → argsL.length = sig.parameters.length)
    (hstack : g.stack = argsL.reverse ++ .ref b :: rest) (hW : 2 * g.monitorRoom + (rest.map fun v => v.category).sum ≤ W9) (hdg : decode c.code g.pc = .ok (.invokevirtual index, 3))
    (hpre : ∀ vm₁, s.WarmedH vm₁ → Pre ⟨T.setVm vm₁, locs, cells, slots⟩ (Value.ref b :: argsL).toArray) :
    (∃ (v : Option Value) (vm₁ : Vm) (B : Pt), s.WarmedH vm₁ ∧ Stand p l e R s m args below meth c B.U B.locs B.cells B.slots ∧ Post ⟨T.setVm vm₁, locs, cells, slots⟩ (Value.ref b :: argsL).toArray v B ∧
      ∀ target, Steps p.tables e below (B.U.setTop { g with pc := g.pc + 3, stack := v.toList ++ rest }) target → Steps p.tables e below (T.setTop g) target) ∨
    (∃ (q : Addr) (vm₁ : Vm) (B : Pt), s.WarmedH vm₁ ∧ Stand p l e R s m args below meth c B.U B.locs B.cells B.slots ∧ PostX ⟨T.setVm vm₁, locs, cells, slots⟩ (Value.ref b :: argsL).toArray q B ∧
      Steps p.tables e below (T.setTop g) ((B.U.setTop { g with stack := rest }).pushFrame (.throwing q))) := by
  obtain ⟨mk, methM, hnamed, hmethM, hstM, habM⟩ := Cond.instanceMethod_spec hinst
  obtain ⟨methM', cM, hmethM', -, -, -, -, -, -, hsigM⟩ := Cond.code_spec hnamed hcode
  cases hmethM.symm.trans hmethM'
  obtain ⟨c2, r2, m2, q1, q2, q3, q4, kP, hkP, hkPi⟩ := Cond.selects_spec hsel
  cases hcls.symm.trans q1
  cases (State.methodFound?_of_named hnamed hy).symm.trans q2
  cases hnamed.symm.trans q3
  have hselP : selectMethod e.platform s.vm cellB.cls mk = .method mk := by rw [Launch.admits_selectMethod X.admits]; exact q4
  obtain ⟨vm₁, X₁, hstep₁⟩ := X.invokevirtual hexec hown hlink hnamed hmethM hstM hkP hkPi hy (a := b) (cell := cellB) hcell
    (fun z h => by rw [h] at hobj; cases hobj) hselP hmethM habM hkP hkPi (g := g) hg (argsL := argsL) (rest := rest) (hlen _ hsigM) hstack hdg
  rcases hK m meth c ⟨T.setVm vm₁, locs, cells, slots⟩ { g with stack := rest } (.invokevirtual index) mk (Value.ref b :: argsL).toArray X₁ hg hsize hdg hW (X₁.named hnamed) (hpre vm₁ X₁.warmed) with ⟨v, B, X', hpost, hsteps⟩ | ⟨q, B, X', hpost, hsteps⟩
  · exact Or.inl ⟨v, vm₁, B, X₁.warmed, X', hpost, fun target h => hstep₁ _ fun acts => by rw [doInvoke_state]; exact hsteps.trans h⟩
  · exact Or.inr ⟨q, vm₁, B, X₁.warmed, X', hpost, hstep₁ _ fun acts => by rw [doInvoke_state]; exact hsteps⟩
theorem vx_callS (X : Stand p l e R s m args below meth c T locs cells slots) (hexec : p.tables.exec = Jvm.exec) {own : String} {index : Nat} {y : MethodName} {bytes : ByteArray} {maxL : Nat} {ret : Option FieldType}
    (hown : s.vm.findClass own = some m.cls) (hlink : (Cond.methodLink own index y).before args s = true) (hstat : (Cond.static y).before args s = true) (hinit : (Cond.initialized y.cls).before args s = true)
    (hcode : (Cond.code y bytes maxL ret).before args s = true) (hy : y.cls ≠ "java/lang/invoke/MethodHandle" ∧ y.cls ≠ "java/lang/invoke/VarHandle")
    {W9 : Nat} {Pre : Pt → Array Value → Prop} {Post : Pt → Array Value → Option Value → Pt → Prop} {PostX : Pt → Array Value → Addr → Pt → Prop} (hK : vx_Back l R p e below s args y 3 W9 Pre Post PostX)
    {g : JFrame} (hg : g.method = m) (hsize : g.locals.size = c.maxLocals) {argsL rest : List Value} (hlen : ∀ sig, parseMethodDescriptor y.desc = some sig → argsL.length = sig.parameters.length)
    (hstack : g.stack = argsL.reverse ++ rest) (hW : 2 * g.monitorRoom + (rest.map fun v => v.category).sum ≤ W9) (hdg : decode c.code g.pc = .ok (.invokestatic index, 3))
    (hpre : ∀ vm₁, s.WarmedH vm₁ → Pre ⟨T.setVm vm₁, locs, cells, slots⟩ argsL.toArray) :
    (∃ (v : Option Value) (vm₁ : Vm) (B : Pt), s.WarmedH vm₁ ∧ Stand p l e R s m args below meth c B.U B.locs B.cells B.slots ∧ Post ⟨T.setVm vm₁, locs, cells, slots⟩ argsL.toArray v B ∧
      ∀ target, Steps p.tables e below (B.U.setTop { g with pc := g.pc + 3, stack := v.toList ++ rest }) target → Steps p.tables e below (T.setTop g) target) ∨
    (∃ (q : Addr) (vm₁ : Vm) (B : Pt), s.WarmedH vm₁ ∧ Stand p l e R s m args below meth c B.U B.locs B.cells B.slots ∧ PostX ⟨T.setVm vm₁, locs, cells, slots⟩ argsL.toArray q B ∧
      Steps p.tables e below (T.setTop g) ((B.U.setTop { g with stack := rest }).pushFrame (.throwing q))) := by
  obtain ⟨mk, hnamed⟩ := Cond.code_named hcode
  obtain ⟨methM, cM, hmethM, -, -, -, -, -, -, hsigM⟩ := Cond.code_spec hnamed hcode
  have hstatic : methM.isStatic = true := Cond.static_spec hnamed hmethM hstat
  obtain ⟨kP, hkP, -⟩ := className_of_methodNamed hnamed
  have hinitP : kP.init = .initialized := Cond.initialized_spec (findClass_of_methodNamed hnamed) hkP hinit
  obtain ⟨vm₁, X₁, hstep₁⟩ := X.invokestatic hexec hown hlink hnamed hmethM hstatic hkP hinitP hy (g := g) hg (argsL := argsL) (rest := rest) (hlen _ hsigM) hstack hdg
  rcases hK m meth c ⟨T.setVm vm₁, locs, cells, slots⟩ { g with stack := rest } (.invokestatic index) mk argsL.toArray X₁ hg hsize hdg hW (X₁.named hnamed) (hpre vm₁ X₁.warmed) with ⟨v, B, X', hpost, hsteps⟩ | ⟨q, B, X', hpost, hsteps⟩
  · exact Or.inl ⟨v, vm₁, B, X₁.warmed, X', hpost, fun target h => hstep₁ _ fun acts => by rw [doInvoke_state]; exact hsteps.trans h⟩
  · exact Or.inr ⟨q, vm₁, B, X₁.warmed, X', hpost, hstep₁ _ fun acts => by rw [doInvoke_state]; exact hsteps⟩
end Calls
theorem vx_cls {s : State} {T : State} {vm₁ : Vm} {E : String} {k : ClassId} (hW : s.WarmedH vm₁) (h : (T.setVm vm₁).vm.findClass E = some k) : s.vm.findClass E = some k := by
  have h1 : vm₁.findClass E = some k := h
  rw [hW.alike.findClass] at h1
  exact h1
/-- the method's frame g, with q thrown over it -/
def vx_W (p : Program) (l : Launch) (e : Env) (R : Room) (s : State) (m : MethodId) (args : Array Value) (below : List Frame) (meth : Method) (c : Code) (H : Heap) (locs : List Loc) (cells slots : Nat) (Q : State → Prop) (g : JFrame) (q : Addr) : Prop :=
  ∀ T : State, T.heap = H → Stand p l e R s m args below meth c T locs cells slots → ∃ t, Steps p.tables e below ((T.setTop g).pushFrame (.throwing q)) t ∧ Q t
def vx_Run (p : Program) (l : Launch) (e : Env) (R : Room) (s : State) (m : MethodId) (args : Array Value) (below : List Frame) (meth : Method) (c : Code) (H : Heap) (locs : List Loc) (cells slots mc ms : Nat) (g : JFrame) (rest : List Value) (Qa : State → Outcome → State → Prop) (XC : String → State → State → Prop) (free : Addr → Prop) : Prop :=
  ∀ T : State, T.heap = H → Stand p l e R s m args below meth c T locs cells slots →
    (∃ (v : Option Value) (st₀ t T' : State) (L : List Loc), st₀.heap = H ∧ Stand p l e R s m args below meth c T' (locs ++ L) (cells + mc) (slots + ms) ∧ (∀ q ∈ L, free q.base) ∧ T'.heap = t.heap ∧ T'.vm = t.vm ∧ Qa st₀ (.returned v) t ∧
      Goes p e below T g T' { g with pc := g.pc + 3, stack := v.toList ++ rest }) ∨
    (∃ (q : Addr) (st₀ t T' : State) (L : List Loc) (E : String) (ce : Cell), st₀.heap = H ∧ Stand p l e R s m args below meth c T' (locs ++ L) (cells + mc) (slots + ms) ∧ (∀ z ∈ L, free z.base) ∧ T'.heap = t.heap ∧ T'.vm = t.vm ∧ XC E st₀ t ∧ t.heap[q]? = some ce ∧ ce.vm = .none ∧ s.vm.findClass E = some ce.cls ∧
      Steps p.tables e below (T.setTop g) ((T'.setTop { g with stack := rest }).pushFrame (.throwing q)))
def vx_X {S : Type} (px : S → Prop) (B : String → S → State → Prop) (A : Nat → Prop) : String → State → State → Prop := fun E st t => ∃ u : S, px u ∧ B E u t ∧ va_F A st t
section Runs
variable {p : Program} {l : Launch} {e : Env} {R : Room} {s : State} {m : MethodId} {args : Array Value} {below : List Frame} {meth : Method} {c : Code} {H : Heap} {locs : List Loc} {cells slots : Nat}
variable {y : MethodName} {bytes cc : ByteArray} {maxL nL mc ms n index : Nat} {ret : Option FieldType} {ws : List Cond} {rm : Room} {Pc : Array Value → State → Prop} {Qc : Array Value → State → Outcome → State → Prop} {XC : String → State → State → Prop} {free : Addr → Prop} {Ts : List Cond} {own C : String} {b : Addr} {As rest : List Value} {g : JFrame}
theorem vx_callBack (cb : CallB R s args own index y bytes maxL ret ws rm mc ms n) (hM : vx_Met l y ws rm Pc Qc XC mc ms free) (hbl : FrameBlind Pc) : vx_Back l R p e below s args y 3 8 (PreOf R mc ms Pc) (PostOf Qc mc ms free) (vx_Post XC mc ms free) := by
  obtain ⟨hrc, hrs, hfr, hlo, hws, hcw, -, hini, -⟩ := cb
  exact vx_back (bytes := bytes) (maxL := maxL) (ret := ret) hM hbl hrc hrs hfr hlo hws hcw (fun a' U hW => word_at hW (Or.inl (by first | rfl | simp [Cond.onTables, Cond.keeps, Cond.steady])) hini)
theorem vx_runV (S : CallFix p m c cc nL s args Ts own) (hM : vx_Met l y ws rm Pc Qc XC mc ms free) (cw : CallW R s args own C index y bytes maxL ret ws rm mc ms n) (hp : PreV s H C b Pc As)
    (hg : g.method = m) (hn : As.length = n) (hsize : g.locals.size = nL) (hstack : g.stack = As.reverse ++ .ref b :: rest) (hW : 2 * g.monitorRoom + (rest.map fun v => v.category).sum ≤ 8) (hdg : decode cc g.pc = .ok (.invokevirtual index, 3)) (hf : cells + mc ≤ R.cells ∧ slots + ms ≤ R.slots) :
    vx_Run p l e R s m args below meth c H locs cells slots mc ms g rest (Qc (Value.ref b :: As).toArray) XC free := by
  have hK : vx_Back l R p e below s args y 3 8 (PreOf R mc ms Pc) (PostOf Qc mc ms free) (vx_Post XC mc ms free) := vx_callBack cw.1 hM hp.1
  obtain ⟨⟨-, -, -, -, -, -, hcode, -, hy, hlen, hl⟩, hin, hse⟩ := cw
  obtain ⟨hx, hb, hml, ho, -⟩ := S
  obtain ⟨-, ⟨cellB, hcB, hoB, hclB⟩, hPc⟩ := hp
  intro T hT X
  rcases vx_callV X hx (C := C) (bytes := bytes) (maxL := maxL) (ret := ret) ho hl hin hse hcode hy hK (by rw [hT]; exact hcB) hoB hclB hg (hsize.trans hml.symm) (argsL := As) (rest := rest) (fun sig h => hn.trans (hlen sig h)) hstack hW (by rw [hb]; exact hdg)
    (fun vm₁ hW₁ => ⟨hf.1, hf.2, hPc (T.setVm vm₁) hT hW₁⟩) with ⟨v, vm₁, ⟨U', l2, c2, s2⟩, hW₁, X', ⟨g', mk, t, L, e1, e2, hq, h1, hL, h2, h3⟩, st⟩ | ⟨q, vm₁, ⟨U', l2, c2, s2⟩, hW₁, X', ⟨g', mk, t, L, E, ce, e1, e2, hq, hce, hcv, hcl, h1, hL, h2, h3⟩, st⟩
  · dsimp only [Pt.U, Pt.locs, Pt.cells, Pt.slots] at X' e1 e2 h1 h2 h3 st
    subst h1; subst h2; subst h3
    exact Or.inl ⟨v, (T.setVm vm₁).calling g' mk (Value.ref b :: As).toArray, t, U', L, hT, X', hL, e1, e2, hq, st⟩
  · dsimp only [Pt.U, Pt.locs, Pt.cells, Pt.slots] at X' e1 e2 h1 h2 h3 st hcl
    subst h1; subst h2; subst h3
    exact Or.inr ⟨q, (T.setVm vm₁).calling g' mk (Value.ref b :: As).toArray, t, U', L, E, ce, hT, X', hL, e1, e2, hq, hce, hcv, vx_cls hW₁ hcl, st⟩
theorem vx_runS (S : CallFix p m c cc nL s args Ts own) (hM : vx_Met l y ws rm Pc Qc XC mc ms free) (cw : CallB R s args own index y bytes maxL ret ws rm mc ms n ∧ (Cond.static y).before args s = true) (hp : PreS s H Pc As)
    (hg : g.method = m) (hn : As.length = n) (hsize : g.locals.size = nL) (hstack : g.stack = As.reverse ++ rest) (hW : 2 * g.monitorRoom + (rest.map fun v => v.category).sum ≤ 8) (hdg : decode cc g.pc = .ok (.invokestatic index, 3)) (hf : cells + mc ≤ R.cells ∧ slots + ms ≤ R.slots) :
    vx_Run p l e R s m args below meth c H locs cells slots mc ms g rest (Qc As.toArray) XC free := by
  have hK : vx_Back l R p e below s args y 3 8 (PreOf R mc ms Pc) (PostOf Qc mc ms free) (vx_Post XC mc ms free) := vx_callBack cw.1 hM hp.1
  obtain ⟨⟨-, -, -, -, -, -, hcode, hini, hy, hlen, hl⟩, hstt⟩ := cw
  obtain ⟨hx, hb, hml, ho, -⟩ := S
  intro T hT X
  rcases vx_callS X hx (bytes := bytes) (maxL := maxL) (ret := ret) ho hl hstt hini hcode hy hK hg (hsize.trans hml.symm) (argsL := As) (rest := rest) (fun sig h => hn.trans (hlen sig h)) hstack hW (by rw [hb]; exact hdg)
    (fun vm₁ hW₁ => ⟨hf.1, hf.2, hp.2 (T.setVm vm₁) hT hW₁⟩) with ⟨v, vm₁, ⟨U', l2, c2, s2⟩, hW₁, X', ⟨g', mk, t, L, e1, e2, hq, h1, hL, h2, h3⟩, st⟩ | ⟨q, vm₁, ⟨U', l2, c2, s2⟩, hW₁, X', ⟨g', mk, t, L, E, ce, e1, e2, hq, hce, hcv, hcl, h1, hL, h2, h3⟩, st⟩
  · dsimp only [Pt.U, Pt.locs, Pt.cells, Pt.slots] at X' e1 e2 h1 h2 h3 st
    subst h1; subst h2; subst h3
    exact Or.inl ⟨v, (T.setVm vm₁).calling g' mk As.toArray, t, U', L, hT, X', hL, e1, e2, hq, st⟩
  · dsimp only [Pt.U, Pt.locs, Pt.cells, Pt.slots] at X' e1 e2 h1 h2 h3 st hcl
    subst h1; subst h2; subst h3
    exact Or.inr ⟨q, (T.setVm vm₁).calling g' mk As.toArray, t, U', L, E, ce, hT, X', hL, e1, e2, hq, hce, hcv, vx_cls hW₁ hcl, st⟩
end Runs
section Rows
variable {p : Program} {l : Launch} {e : Env} {R : Room} {s : State} {m : MethodId} {args : Array Value} {below : List Frame} {meth : Method} {c : Code} {H : Heap} {locs : List Loc} {cells slots : Nat} {Q : State → Prop}
variable {mc ms : Nat} {free : Addr → Prop} {A0 A1 : Nat → Prop} {H0 : Heap} {a : Array Value} {pc : Nat} {ls : Array Slot} {st0 rest : List Value}
theorem vx_keep {st₀ t T' : State} {L : List Loc} (h0 : st₀.heap = H) (e1 : T'.heap = t.heap) (hS : va_S A0 H0 H locs) (hA : ∀ q, q < H.size → A1 q → A0 q) (hf : ∀ q, free q → A0 q) (hL : ∀ q ∈ L, free q.base) (hF : va_F A1 st₀ t) :
    H.size ≤ T'.heap.size ∧ (∀ q : Nat, q < H.size → ¬ A1 q → T'.heap[q]? = H[q]?) ∧ va_S A0 H0 T'.heap (locs ++ L) := by
  obtain ⟨hz, hk⟩ := hF
  rw [h0] at hz hk
  exact ⟨by rw [e1]; exact hz, fun q h1 h2 => by rw [e1]; exact hk q h1 h2,
    ⟨Nat.le_trans hS.1 (by rw [e1]; exact hz), fun q h1 h2 => by rw [e1, hk q (Nat.lt_of_lt_of_le h1 hS.1) (fun z => h2 (hA q (Nat.lt_of_lt_of_le h1 hS.1) z))]; exact hS.2.1 q h1 h2, fun q hq => by
      rcases List.mem_append.mp hq with h | h
      · exact hS.2.2 q h
      · exact hf _ (hL q h)⟩⟩
theorem vx_calli {S SX : Type} {post : Int32 → S → Prop} {px : SX → Prop} {B : S → State → Prop} {BX : String → SX → State → Prop} {AX : Nat → Prop} (hr : vx_Run p l e R s m args below meth c H locs cells slots mc ms (F0 m pc ls st0) rest (va_Qi post B A1 a) (vx_X px BX AX) free) (hS : va_S A0 H0 H locs) (hA : ∀ q, q < H.size → A1 q → A0 q) (hf : ∀ q, free q → A0 q) (hAX : ∀ q, q < H.size → AX q → A0 q)
    (kx : ∀ (E : String) (ce : Cell) (q9 : Addr) (u : SX) (t : State) (H1 : Heap) (locs1 : List Loc), t.heap = H1 → s.vm.Alike t.vm → px u → BX E u t → H.size ≤ H1.size → (∀ q : Nat, q < H.size → ¬ AX q → H1[q]? = H[q]?) → va_S A0 H0 H1 locs1 → H1[q9]? = some ce → ce.vm = .none → s.vm.findClass E = some ce.cls → vx_W p l e R s m args below meth c H1 locs1 (cells + mc) (slots + ms) Q (F0 m pc ls rest) q9)
    (kk : ∀ (r : Int32) (u : S) (t : State) (H1 : Heap) (locs1 : List Loc), t.heap = H1 → s.vm.Alike t.vm → post r u → B u t → H.size ≤ H1.size → (∀ q : Nat, q < H.size → ¬ A1 q → H1[q]? = H[q]?) → va_S A0 H0 H1 locs1 → W p l e R s m args below meth c H1 locs1 (cells + mc) (slots + ms) Q (F0 m (pc + 3) ls (.int r :: rest))) : W p l e R s m args below meth c H locs cells slots Q (F0 m pc ls st0) := by
  intro T hT X
  rcases hr T hT X with ⟨v, st₀, t, T', L, h0, X', hL, e1, e2, ⟨⟨r, u, hv, hp, hb⟩, hF⟩, st⟩ | ⟨q, st₀, t, T', L, E, ce, h0, X', hL, e1, e2, ⟨u, hp, hb, hF⟩, hce, hcv, hcl, st⟩
  · cases hv
    obtain ⟨k1, k2, k3⟩ := vx_keep h0 e1 hS hA hf hL hF
    obtain ⟨t2, a1, b1⟩ := kk r u t T'.heap (locs ++ L) e1.symm (by rw [← e2]; exact X'.warmed.alike) hp hb k1 k2 k3 T' rfl X'
    exact ⟨t2, st t2 a1, b1⟩
  · obtain ⟨k1, k2, k3⟩ := vx_keep h0 e1 hS hAX hf hL hF
    obtain ⟨t2, a1, b1⟩ := kx E ce q u t T'.heap (locs ++ L) e1.symm (by rw [← e2]; exact X'.warmed.alike) hp hb k1 k2 k3 (by rw [e1]; exact hce) hcv hcl T' rfl X'
    exact ⟨t2, st.trans a1, b1⟩
theorem vx_calll {S SX : Type} {post : Int64 → S → Prop} {px : SX → Prop} {B : S → State → Prop} {BX : String → SX → State → Prop} {AX : Nat → Prop} (hr : vx_Run p l e R s m args below meth c H locs cells slots mc ms (F0 m pc ls st0) rest (va_Ql post B A1 a) (vx_X px BX AX) free) (hS : va_S A0 H0 H locs) (hA : ∀ q, q < H.size → A1 q → A0 q) (hf : ∀ q, free q → A0 q) (hAX : ∀ q, q < H.size → AX q → A0 q)
    (kx : ∀ (E : String) (ce : Cell) (q9 : Addr) (u : SX) (t : State) (H1 : Heap) (locs1 : List Loc), t.heap = H1 → s.vm.Alike t.vm → px u → BX E u t → H.size ≤ H1.size → (∀ q : Nat, q < H.size → ¬ AX q → H1[q]? = H[q]?) → va_S A0 H0 H1 locs1 → H1[q9]? = some ce → ce.vm = .none → s.vm.findClass E = some ce.cls → vx_W p l e R s m args below meth c H1 locs1 (cells + mc) (slots + ms) Q (F0 m pc ls rest) q9)
    (kk : ∀ (r : Int64) (u : S) (t : State) (H1 : Heap) (locs1 : List Loc), t.heap = H1 → s.vm.Alike t.vm → post r u → B u t → H.size ≤ H1.size → (∀ q : Nat, q < H.size → ¬ A1 q → H1[q]? = H[q]?) → va_S A0 H0 H1 locs1 → W p l e R s m args below meth c H1 locs1 (cells + mc) (slots + ms) Q (F0 m (pc + 3) ls (.long r :: rest))) : W p l e R s m args below meth c H locs cells slots Q (F0 m pc ls st0) := by
  intro T hT X
  rcases hr T hT X with ⟨v, st₀, t, T', L, h0, X', hL, e1, e2, ⟨⟨r, u, hv, hp, hb⟩, hF⟩, st⟩ | ⟨q, st₀, t, T', L, E, ce, h0, X', hL, e1, e2, ⟨u, hp, hb, hF⟩, hce, hcv, hcl, st⟩
  · cases hv
    obtain ⟨k1, k2, k3⟩ := vx_keep h0 e1 hS hA hf hL hF
    obtain ⟨t2, a1, b1⟩ := kk r u t T'.heap (locs ++ L) e1.symm (by rw [← e2]; exact X'.warmed.alike) hp hb k1 k2 k3 T' rfl X'
    exact ⟨t2, st t2 a1, b1⟩
  · obtain ⟨k1, k2, k3⟩ := vx_keep h0 e1 hS hAX hf hL hF
    obtain ⟨t2, a1, b1⟩ := kx E ce q u t T'.heap (locs ++ L) e1.symm (by rw [← e2]; exact X'.warmed.alike) hp hb k1 k2 k3 (by rw [e1]; exact hce) hcv hcl T' rfl X'
    exact ⟨t2, st.trans a1, b1⟩
theorem vx_callf {S SX : Type} {post : UInt32 → S → Prop} {px : SX → Prop} {B : S → State → Prop} {BX : String → SX → State → Prop} {AX : Nat → Prop} (hr : vx_Run p l e R s m args below meth c H locs cells slots mc ms (F0 m pc ls st0) rest (va_Qf post B A1 a) (vx_X px BX AX) free) (hS : va_S A0 H0 H locs) (hA : ∀ q, q < H.size → A1 q → A0 q) (hf : ∀ q, free q → A0 q) (hAX : ∀ q, q < H.size → AX q → A0 q)
    (kx : ∀ (E : String) (ce : Cell) (q9 : Addr) (u : SX) (t : State) (H1 : Heap) (locs1 : List Loc), t.heap = H1 → s.vm.Alike t.vm → px u → BX E u t → H.size ≤ H1.size → (∀ q : Nat, q < H.size → ¬ AX q → H1[q]? = H[q]?) → va_S A0 H0 H1 locs1 → H1[q9]? = some ce → ce.vm = .none → s.vm.findClass E = some ce.cls → vx_W p l e R s m args below meth c H1 locs1 (cells + mc) (slots + ms) Q (F0 m pc ls rest) q9)
    (kk : ∀ (r : UInt32) (u : S) (t : State) (H1 : Heap) (locs1 : List Loc), t.heap = H1 → s.vm.Alike t.vm → post r u → B u t → H.size ≤ H1.size → (∀ q : Nat, q < H.size → ¬ A1 q → H1[q]? = H[q]?) → va_S A0 H0 H1 locs1 → W p l e R s m args below meth c H1 locs1 (cells + mc) (slots + ms) Q (F0 m (pc + 3) ls (.float r :: rest))) : W p l e R s m args below meth c H locs cells slots Q (F0 m pc ls st0) := by
  intro T hT X
  rcases hr T hT X with ⟨v, st₀, t, T', L, h0, X', hL, e1, e2, ⟨⟨r, u, hv, hp, hb⟩, hF⟩, st⟩ | ⟨q, st₀, t, T', L, E, ce, h0, X', hL, e1, e2, ⟨u, hp, hb, hF⟩, hce, hcv, hcl, st⟩
  · cases hv
    obtain ⟨k1, k2, k3⟩ := vx_keep h0 e1 hS hA hf hL hF
    obtain ⟨t2, a1, b1⟩ := kk r u t T'.heap (locs ++ L) e1.symm (by rw [← e2]; exact X'.warmed.alike) hp hb k1 k2 k3 T' rfl X'
    exact ⟨t2, st t2 a1, b1⟩
  · obtain ⟨k1, k2, k3⟩ := vx_keep h0 e1 hS hAX hf hL hF
    obtain ⟨t2, a1, b1⟩ := kx E ce q u t T'.heap (locs ++ L) e1.symm (by rw [← e2]; exact X'.warmed.alike) hp hb k1 k2 k3 (by rw [e1]; exact hce) hcv hcl T' rfl X'
    exact ⟨t2, st.trans a1, b1⟩
theorem vx_calld {S SX : Type} {post : UInt64 → S → Prop} {px : SX → Prop} {B : S → State → Prop} {BX : String → SX → State → Prop} {AX : Nat → Prop} (hr : vx_Run p l e R s m args below meth c H locs cells slots mc ms (F0 m pc ls st0) rest (va_Qd post B A1 a) (vx_X px BX AX) free) (hS : va_S A0 H0 H locs) (hA : ∀ q, q < H.size → A1 q → A0 q) (hf : ∀ q, free q → A0 q) (hAX : ∀ q, q < H.size → AX q → A0 q)
    (kx : ∀ (E : String) (ce : Cell) (q9 : Addr) (u : SX) (t : State) (H1 : Heap) (locs1 : List Loc), t.heap = H1 → s.vm.Alike t.vm → px u → BX E u t → H.size ≤ H1.size → (∀ q : Nat, q < H.size → ¬ AX q → H1[q]? = H[q]?) → va_S A0 H0 H1 locs1 → H1[q9]? = some ce → ce.vm = .none → s.vm.findClass E = some ce.cls → vx_W p l e R s m args below meth c H1 locs1 (cells + mc) (slots + ms) Q (F0 m pc ls rest) q9)
    (kk : ∀ (r : UInt64) (u : S) (t : State) (H1 : Heap) (locs1 : List Loc), t.heap = H1 → s.vm.Alike t.vm → post r u → B u t → H.size ≤ H1.size → (∀ q : Nat, q < H.size → ¬ A1 q → H1[q]? = H[q]?) → va_S A0 H0 H1 locs1 → W p l e R s m args below meth c H1 locs1 (cells + mc) (slots + ms) Q (F0 m (pc + 3) ls (.double r :: rest))) : W p l e R s m args below meth c H locs cells slots Q (F0 m pc ls st0) := by
  intro T hT X
  rcases hr T hT X with ⟨v, st₀, t, T', L, h0, X', hL, e1, e2, ⟨⟨r, u, hv, hp, hb⟩, hF⟩, st⟩ | ⟨q, st₀, t, T', L, E, ce, h0, X', hL, e1, e2, ⟨u, hp, hb, hF⟩, hce, hcv, hcl, st⟩
  · cases hv
    obtain ⟨k1, k2, k3⟩ := vx_keep h0 e1 hS hA hf hL hF
    obtain ⟨t2, a1, b1⟩ := kk r u t T'.heap (locs ++ L) e1.symm (by rw [← e2]; exact X'.warmed.alike) hp hb k1 k2 k3 T' rfl X'
    exact ⟨t2, st t2 a1, b1⟩
  · obtain ⟨k1, k2, k3⟩ := vx_keep h0 e1 hS hAX hf hL hF
    obtain ⟨t2, a1, b1⟩ := kx E ce q u t T'.heap (locs ++ L) e1.symm (by rw [← e2]; exact X'.warmed.alike) hp hb k1 k2 k3 (by rw [e1]; exact hce) hcv hcl T' rfl X'
    exact ⟨t2, st.trans a1, b1⟩
theorem vx_callv {S SX : Type} {post : S → Prop} {px : SX → Prop} {B : S → State → Prop} {BX : String → SX → State → Prop} {AX : Nat → Prop} (hr : vx_Run p l e R s m args below meth c H locs cells slots mc ms (F0 m pc ls st0) rest (va_Qv post B A1 a) (vx_X px BX AX) free) (hS : va_S A0 H0 H locs) (hA : ∀ q, q < H.size → A1 q → A0 q) (hf : ∀ q, free q → A0 q) (hAX : ∀ q, q < H.size → AX q → A0 q)
    (kx : ∀ (E : String) (ce : Cell) (q9 : Addr) (u : SX) (t : State) (H1 : Heap) (locs1 : List Loc), t.heap = H1 → s.vm.Alike t.vm → px u → BX E u t → H.size ≤ H1.size → (∀ q : Nat, q < H.size → ¬ AX q → H1[q]? = H[q]?) → va_S A0 H0 H1 locs1 → H1[q9]? = some ce → ce.vm = .none → s.vm.findClass E = some ce.cls → vx_W p l e R s m args below meth c H1 locs1 (cells + mc) (slots + ms) Q (F0 m pc ls rest) q9)
    (kk : ∀ (u : S) (t : State) (H1 : Heap) (locs1 : List Loc), t.heap = H1 → s.vm.Alike t.vm → post u → B u t → H.size ≤ H1.size → (∀ q : Nat, q < H.size → ¬ A1 q → H1[q]? = H[q]?) → va_S A0 H0 H1 locs1 → W p l e R s m args below meth c H1 locs1 (cells + mc) (slots + ms) Q (F0 m (pc + 3) ls (rest))) : W p l e R s m args below meth c H locs cells slots Q (F0 m pc ls st0) := by
  intro T hT X
  rcases hr T hT X with ⟨v, st₀, t, T', L, h0, X', hL, e1, e2, ⟨⟨u, hv, hp, hb⟩, hF⟩, st⟩ | ⟨q, st₀, t, T', L, E, ce, h0, X', hL, e1, e2, ⟨u, hp, hb, hF⟩, hce, hcv, hcl, st⟩
  · cases hv
    obtain ⟨k1, k2, k3⟩ := vx_keep h0 e1 hS hA hf hL hF
    obtain ⟨t2, a1, b1⟩ := kk u t T'.heap (locs ++ L) e1.symm (by rw [← e2]; exact X'.warmed.alike) hp hb k1 k2 k3 T' rfl X'
    exact ⟨t2, st t2 a1, b1⟩
  · obtain ⟨k1, k2, k3⟩ := vx_keep h0 e1 hS hAX hf hL hF
    obtain ⟨t2, a1, b1⟩ := kx E ce q u t T'.heap (locs ++ L) e1.symm (by rw [← e2]; exact X'.warmed.alike) hp hb k1 k2 k3 (by rw [e1]; exact hce) hcv hcl T' rfl X'
    exact ⟨t2, st.trans a1, b1⟩
/-- caught by the row x of this method's table; the rows ahead don't take it -/
theorem vx_catch {own name : String} {E : String} {ce : Cell} {q : Addr} (hown : s.vm.findClass own = some m.cls) (pre : List ExceptionTableEntry) (x : ExceptionTableEntry) (suf : List ExceptionTableEntry) (hsplit : c.exceptionTable.toList = pre ++ x :: suf)
    (hpass : ∀ z ∈ pre, covers z pc = false ∨ (z.catchType ≠ 0 ∧ ∃ nm : String, (Cond.classLink own z.catchType nm).before args s = true ∧ va_Nc E nm s)) (hx : covers x pc = true) (h0 : x.catchType ≠ 0)
    (hlink : (Cond.classLink own x.catchType name).before args s = true) (hcast : (Cond.castable E name).before args s = true) (hcell : H[q]? = some ce) (hv : ce.vm = .none) (hcl : s.vm.findClass E = some ce.cls)
    (kk : W p l e R s m args below meth c H locs cells slots Q (F0 m x.handlerPc ls [.ref q])) : vx_W p l e R s m args below meth c H locs cells slots Q (F0 m pc ls rest) q := by
  intro T hT X
  have hpl : e.platform.magicAccessors = ({} : Platform).magicAccessors := by rw [X.admits.platform]
  obtain ⟨c3, c4, hc3, hc4, hasg⟩ := Cond.castable_spec hcast
  cases Option.some.inj (hc3.symm.trans hcl)
  obtain ⟨c5, hc5, hcl5⟩ := Cond.classLink_spec hown hlink e.platform hpl
  cases Option.some.inj (hc4.symm.trans hc5)
  obtain ⟨vm', X', st⟩ := X.thenCaughtThrough q (g := F0 m pc ls rest) rfl (Steps.refl _) (by rw [hT]; exact hcell) (by rw [hv]; rfl) (by obtain ⟨k9, h9, -⟩ := Vm.findClass_spec hcl; exact ⟨k9, h9⟩) pre x suf hsplit
    (fun z hz => by
      rcases hpass z hz with h | ⟨hz0, nm, hl1, hn1⟩
      · exact Or.inl h
      · obtain ⟨c6, hc6, hcl6⟩ := Cond.classLink_spec hown hl1 e.platform hpl
        obtain ⟨a8, b8, h1, h2, h3⟩ := hn1
        cases Option.some.inj (h1.symm.trans hcl)
        cases Option.some.inj (h2.symm.trans hc6)
        exact Or.inr ⟨hz0, _, hcl6, h3⟩) hx (Or.inr ⟨h0, c4, hcl5, hasg⟩)
  obtain ⟨t, a1, b1⟩ := kk (T.setVm vm') hT X'
  exact ⟨t, st.trans a1, b1⟩
end Rows
section Ends
variable {p : Program} {l : Launch} {e : Env} {R : Room} {s : State} {m : MethodId} {args : Array Value} {below : List Frame} {meth : Method} {c : Code} {H : Heap} {locs : List Loc} {cells slots : Nat} {Q : State → Prop}
variable {mc ms : Nat} {free : Addr → Prop} {A0 A1 : Nat → Prop} {H0 : Heap} {a : Array Value} {ls : Array Slot} {st0 rest : List Value}
variable {Qc : Array Value → State → Outcome → State → Prop} {XC : String → State → State → Prop}
/-- what a body that may throw owes at its end -/
def vx_MQ (below : List Frame) (Qc : Array Value → State → Outcome → State → Prop) (XC : String → State → State → Prop) (a : Array Value) (s : State) (mc ms : Nat) (free : Addr → Prop) : State → Prop := fun t =>
  ∃ o, t.status = .running ∧ Ended t below o ∧ vx_Q Qc XC mc ms free a s o t
theorem vx_ret {g : JFrame} {mc ms : Nat} (k : W p l e R s m args below meth c H locs cells slots (MQ below Qc args s mc ms free) g) : W p l e R s m args below meth c H locs cells slots (vx_MQ below Qc XC args s mc ms free) g := by
  intro T hT X
  obtain ⟨t, a1, o, b1, b2, b3, b4⟩ := k T hT X
  exact ⟨t, a1, o, b1, b2, Or.inl ⟨b3, b4⟩⟩
/-- not caught here: it goes on to the caller -/
theorem vx_widen {g : JFrame} {q : Addr} {k n : Nat} (h1 : cells ≤ k) (h2 : slots ≤ n) (kk : vx_W p l e R s m args below meth c H locs k n Q g q) : vx_W p l e R s m args below meth c H locs cells slots Q g q := fun T hT X => kk T hT (stand_widen X h1 h2)
theorem vx_out {pc : Nat} {E : String} {ce : Cell} {q : Addr} {mc ms : Nat} (hout : ∀ x ∈ c.exceptionTable.toList, covers x pc = false) (hlocks : meth.locks = false) (hcell : H[q]? = some ce) (hv : ce.vm = .none) (hcl : s.vm.findClass E = some ce.cls)
    (hx : ∀ t : State, t.heap = H → s.vm.Alike t.vm → XC E s t) (hf : ∀ z ∈ locs, free z.base) (hc : cells ≤ mc) (hs : slots ≤ ms) :
    vx_W p l e R s m args below meth c H locs cells slots (vx_MQ below Qc XC args s mc ms free) (F0 m pc ls rest) q := by
  intro T hT X
  obtain ⟨st1, hrun, hend, hW, hsm⟩ := X.leaveThrown q (g := F0 m pc ls rest) rfl rfl rfl hout hlocks
  have hcell9 : (T.setFrames (.throwing q :: below)).heap[q]? = some ce := by
    show T.heap[q]? = some ce
    rw [hT]; exact hcell
  exact ⟨_, st1, .threw q, hrun, hend, Or.inr ⟨q, rfl, E, ce, locs, hx _ hT hW.alike, hcell9, hv, hcl, hW, hsm.mono hc hs, hf⟩⟩
theorem vx_frame {U : State} {k n : Nat} (h : s.sameButNew ({ U with vm := s.vm } : State) locs k n) : s.heap.size ≤ U.heap.size ∧ ∀ q : Nat, q < s.heap.size → (∀ z ∈ locs, z.base ≠ q) → U.heap[q]? = s.heap[q]? := by
  obtain ⟨-, h2, -, -, -, h6⟩ := h
  refine ⟨h2, fun q hq hz => ?_⟩
  obtain ⟨c9, e1, e2, e3, e4⟩ := h6 q _ (Array.getElem?_eq_getElem hq)
  have hs : c9.slots = (s.heap[q]).slots := Array.ext_getElem? fun i => e4 i fun hm => hz _ hm rfl
  have h9 : c9 = s.heap[q] := by
    rw [hs] at e2
    exact e2
  have e5 : U.heap[q]? = some c9 := e1
  rw [e5, h9, Array.getElem?_eq_getElem hq]
/-- the words of a throw but the four that speak of the heap -/
def vx_no (w : Cond) : Bool := decide (w ≠ .isRef (.static Bundle.tN "UNASSIGNED_STACK" Bundle.steD)) && decide (w ≠ .isRef (.static Bundle.tN "SUPPRESSED_SENTINEL" Bundle.listD)) && decide (w ≠ .laysStatic Bundle.tN "UNASSIGNED_STACK" Bundle.steD) && decide (w ≠ .laysStatic Bundle.tN "SUPPRESSED_SENTINEL" Bundle.listD)
def vx_at0 (own : String) (ic : Nat) (X : String) (names : List String) : List Cond := (Bundle.ownAtoms0 own ic X names).filter vx_no
def vx_atS (own : String) (ic : Nat) (X : String) (names : List String) : List Cond := (Bundle.ownAtoms own ic X names).filter vx_no
/-- a word that the tables alone decide, or a good one -/
def vx_ot (w : Cond) : Bool := w.onTables || goodWord w
theorem vx_ot_at {args a' : Array Value} {s U : State} {w : Cond} (hW : s.WarmedH U.vm) (hvm : s.vm = U.vm) (hg : vx_ot w = true) (h : w.before args s = true) : w.before a' U = true := by
  simp only [vx_ot, Bool.or_eq_true] at hg
  rcases hg with hg | hg
  · exact va_tabs hg hvm h
  · exact word_at hW (good_of_word hg) h
/-- a list's words: the good ones out of the method's own list, the others by premises of their own -/
theorem vx_hat {args : Array Value} {s : State} {L B : List Cond} (h1 : ∀ w ∈ L.filter goodWord, w.before args s = true) (h2 : ∀ w ∈ L.filter (fun w => !goodWord w), w ∈ B) (h3 : ∀ w ∈ B, w.before args s = true) : ∀ w ∈ L, w.before args s = true := by
  intro w hw
  by_cases g : goodWord w = true
  · exact h1 w (List.mem_filter.mpr ⟨hw, g⟩)
  · refine h3 w (h2 w (List.mem_filter.mpr ⟨hw, ?_⟩))
    show (!goodWord w) = true
    cases hgw : goodWord w
    · rfl
    · exact absurd hgw g
theorem vx_c {args : Array Value} {s : State} {w : Cond} {B : List Cond} (h : w.before args s = true) (t : ∀ w ∈ B, w.before args s = true) : ∀ w' ∈ w :: B, w'.before args s = true := fun w' h' => (List.mem_cons.mp h').elim (fun e => by rw [e]; exact h) (t w')
theorem vx_n {args : Array Value} {s : State} : ∀ w ∈ ([] : List Cond), w.before args s = true := fun _ h => nomatch h
theorem vx_own {args : Array Value} {s : State} {L : List Cond} (h1 : ∀ w ∈ L.filter vx_no, w.before args s = true)
    (hU : (Cond.isRef (.static Bundle.tN "UNASSIGNED_STACK" Bundle.steD)).before args s = true) (hN : (Cond.isRef (.static Bundle.tN "SUPPRESSED_SENTINEL" Bundle.listD)).before args s = true)
    (lU : (Cond.laysStatic Bundle.tN "UNASSIGNED_STACK" Bundle.steD).before args s = true) (lN : (Cond.laysStatic Bundle.tN "SUPPRESSED_SENTINEL" Bundle.listD).before args s = true) : ∀ w ∈ L, w.before args s = true := by
  intro w hw
  by_cases e1 : w = .isRef (.static Bundle.tN "UNASSIGNED_STACK" Bundle.steD)
  · rw [e1]; exact hU
  · by_cases e2 : w = .isRef (.static Bundle.tN "SUPPRESSED_SENTINEL" Bundle.listD)
    · rw [e2]; exact hN
    · by_cases e3 : w = .laysStatic Bundle.tN "UNASSIGNED_STACK" Bundle.steD
      · rw [e3]; exact lU
      · by_cases e4 : w = .laysStatic Bundle.tN "SUPPRESSED_SENTINEL" Bundle.listD
        · rw [e4]; exact lN
        · exact h1 w (List.mem_filter.mpr ⟨hw, by unfold vx_no; rw [decide_eq_true e1, decide_eq_true e2, decide_eq_true e3, decide_eq_true e4]; rfl⟩)
/-- where a static field lies, its class's statics cell in H -/
def vx_L (C n d : String) (A : Nat → Prop) (U : State) (H : Heap) : Prop := ∃ (c : ClassId) (k : Class) (i : Nat) (f : Field) (a : Nat) (cell : Cell), U.vm.findClass C = some c ∧ U.fieldFound? C n d = some (c, k, i, f) ∧ f.isStatic = true ∧ k.statics = some a ∧ H[a]? = some cell ∧ cell.vm.isStatics = true ∧ cell.cls = c ∧ f.slot < cell.slots.size ∧ k.staticTypes[f.slot]? = some f.type ∧ ¬ A a
theorem vx_L.moved {C n d : String} {A : Nat → Prop} {u U : State} {H : Heap} (hvm : u.vm.Alike U.vm) (h : vx_L C n d A u H) : vx_L C n d A U H := by
  obtain ⟨c, k, i, f, a, cell, h1, h2, h3, h4, h5, h6, h7, h8, h9, h10⟩ := h
  obtain ⟨k', hi', he⟩ := State.fieldFound?_setVm hvm h2
  exact ⟨c, k', i, f, a, cell, by rw [hvm.findClass]; exact h1, hi', h3, by rw [he]; exact h4, h5, h6, h7, h8, by rw [he]; exact h9, h10⟩
theorem vx_L.kept {C n d : String} {A : Nat → Prop} {U : State} {H H1 : Heap} (h : vx_L C n d A U H) (hq : ∀ a : Nat, a < H.size → ¬ A a → H1[a]? = H[a]?) : vx_L C n d A U H1 := by
  obtain ⟨c, k, i, f, a, cell, h1, h2, h3, h4, h5, h6, h7, h8, h9, h10⟩ := h
  exact ⟨c, k, i, f, a, cell, h1, h2, h3, h4, by rw [hq a (Array.getElem?_eq_some_iff.mp h5).1 h10]; exact h5, h6, h7, h8, h9, h10⟩
theorem vx_L.narrow {C n d : String} {A B : Nat → Prop} {U : State} {H : Heap} (h : vx_L C n d A U H) (hAB : ∀ q, B q → A q) : vx_L C n d B U H := by
  obtain ⟨c, k, i, f, a, cell, h1, h2, h3, h4, h5, h6, h7, h8, h9, h10⟩ := h
  exact ⟨c, k, i, f, a, cell, h1, h2, h3, h4, h5, h6, h7, h8, h9, fun z => h10 (hAB _ z)⟩
theorem vx_L.word {C n d : String} {A : Nat → Prop} {s : State} {args : Array Value} (h : vx_L C n d A s s.heap) : (Cond.laysStatic C n d).before args s = true := by
  obtain ⟨c, k, i, f, a, cell, h1, h2, h3, h4, h5, h6, h7, h8, h9, -⟩ := h
  show (Cond.laysStatic C n d).holds args s none s [] = true
  exact Cond.laysStatic_of h1 h2 h3 h4 h5 h6 h7 h8 h9
/-- .. and what it holds: null or some reference -/
def vx_Zq (C n d : String) (A : Nat → Prop) (U : State) (H : Heap) : Prop := va_Zq C n d A U H ∧ vx_L C n d A U H
theorem vx_Zq.moved {C n d : String} {A : Nat → Prop} {u U : State} {H : Heap} (hvm : u.vm.Alike U.vm) (h : vx_Zq C n d A u H) : vx_Zq C n d A U H := ⟨va_Zq.moved hvm h.1, vx_L.moved hvm h.2⟩
theorem vx_Zq.kept {C n d : String} {A : Nat → Prop} {U : State} {H H1 : Heap} (h : vx_Zq C n d A U H) (hq : ∀ a : Nat, a < H.size → ¬ A a → H1[a]? = H[a]?) : vx_Zq C n d A U H1 := ⟨va_Zq.kept h.1 hq, vx_L.kept h.2 hq⟩
theorem vx_Zq.narrow {C n d : String} {A B : Nat → Prop} {U : State} {H : Heap} (h : vx_Zq C n d A U H) (hAB : ∀ q, B q → A q) : vx_Zq C n d B U H := ⟨va_Zq.narrow h.1 hAB, vx_L.narrow h.2 hAB⟩
theorem vx_Zqof {args : Array Value} {s : State} {C n d : String} {A : Nat → Prop} (hl : (Cond.laysStatic C n d).before args s = true) (hini : (Cond.initialized C).before args s = true) (h : (Cond.isRef (.static C n d)).before args s = true) (hA : ∀ a : Nat, a < s.heap.size → ¬ A a) : vx_Zq C n d A s s.heap := by
  refine ⟨va_Zqof hl hini h hA, ?_⟩
  obtain ⟨c, k, i, f, a, cell, h1, h2, h3, h4, h5, h6, h7, h8, h9⟩ := Cond.laysStatic_spec hl
  exact ⟨c, k, i, f, a, cell, h1, h2, h3, h4, h5, h6, h7, h8, h9, hA a (Array.getElem?_eq_some_iff.mp h5).1⟩
theorem vx_isRef {C n d : String} {v : Value} {A : Nat → Prop} {s : State} {args : Array Value} (h : va_Z C n d v A s s.heap) (hv : v.isRef = true) : (Cond.isRef (.static C n d)).before args s = true := by
  obtain ⟨cf, kf, fi, f, a, cell, h1, h2, h3, h4, h5, h6, h7, -⟩ := h
  have he : (Term.static C n d).eval args s none [] s = some v := by
    simp [Term.eval, State.fieldNamed?, h1, h2, h4, h5, h6, h7]
  simp only [Cond.before, Cond.holds, Cond.value, he]
  cases v <;> simp_all [Value.isRef]
theorem vx_isRefq {C n d : String} {A : Nat → Prop} {s : State} {args : Array Value} (h : va_Zq C n d A s s.heap) : (Cond.isRef (.static C n d)).before args s = true := by
  rcases h with h | ⟨t, h⟩
  · exact vx_isRef h rfl
  · exact vx_isRef h rfl
/-- the same frame, seen from here: as if the method were called anew in this heap -/
theorem vx_rebase {T : State} (X : Stand p l e R s m args below meth c T locs cells slots) {R' : Room} (hf : R'.frames ≤ R.frames) (hl : R'.locals ≤ R.locals) (hc : cells + R'.cells ≤ R.cells) (hs : slots + R'.slots ≤ R.slots) :
    Stand p l e R' ((T.setVm s.vm).setFrames (.invoking m args :: below)) m args below meth c T [] 0 0 := by
  have htop : (T.setVm s.vm).topJava?.isSome := X.here.top
  have hF : ((T.setVm s.vm).setFrames (.invoking m args :: below)).frames = .invoking m args :: below := State.frames_setFrames _ (State.cur_lt_of_top htop)
  obtain ⟨g₀, hg0⟩ := Option.isSome_iff_exists.mp htop
  obtain ⟨r, hr⟩ := State.topJava?_eq_some.mp hg0
  have hl9 : e.platform.stackLimits (T.setVm s.vm).me = e.platform.stackLimits s.me := X.limits
  have hb9 : (T.setVm s.vm).me.stackBytes = s.me.stackBytes := X.bytes
  refine ⟨X.admits, X.cas, X.clock, hF, ?_, X.hears, X.method, X.code, X.here, X.tail, X.warmed, ?_, ?_, ?_⟩
  · have h := X.room
    have hU : ((T.setVm s.vm).setFrames (.invoking m args :: below)).localsInUse = s.localsInUse := by
      rw [State.localsInUse_invoking hF (meth := meth) (c := c) X.method X.code, State.localsInUse_invoking X.frames X.method X.code]
    simp only [State.hasRoom, Bool.and_eq_true, decide_eq_true_eq] at h ⊢
    obtain ⟨⟨⟨⟨h1, h2, h3, h4, h5, h6⟩, h7⟩, h8⟩, h9⟩ := h
    rw [X.frames, List.length_cons] at h2 h3
    have q1 := X.heapSize
    have q2 := X.used
    simp only [hF, hU, List.length_cons, State.stackLimits_setFrames, State.stackBytes_setFrames, hl9, hb9]
    refine ⟨⟨⟨⟨by omega, by omega, by omega, by omega, by omega, h6⟩, ?_⟩, ?_⟩, X.book⟩
    · show T.heap.size + R'.cells ≤ e.platform.maxCells
      omega
    · show T.slotsUsed + R'.slots ≤ e.platform.maxSlots
      omega
  · rw [State.stackLimits_setFrames]; rfl
  · rw [State.stackBytes_setFrames]; rfl
  · refine ⟨?_, Nat.le_refl _, Nat.le_refl _, ?_, ?_, fun a c9 h9 => ⟨c9, h9, rfl, rfl, fun _ _ => rfl⟩⟩
    · obtain ⟨t, ht, -⟩ := State.frames_cons hr
      show T.setVm s.vm = { ((T.setVm s.vm).setFrames (.invoking m args :: below)).setFrames (T.setVm s.vm).frames with heap := T.heap, slotsUsed := T.slotsUsed }
      rw [State.setFrames_setFrames, State.setFrames_self ht]
      rfl
    · show T.slotsUsed = T.slotsUsed + ((T.heap.toList.drop T.heap.size).map (·.slots.size)).sum
      rw [List.drop_eq_nil_of_le (Nat.le_of_eq Array.length_toList)]
      rfl
    · show ((T.heap.toList.drop T.heap.size).map (·.slots.size)).sum ≤ 0
      rw [List.drop_eq_nil_of_le (Nat.le_of_eq Array.length_toList)]
      exact Nat.le_refl _
/-- 'throw new E()': new; dup; invokespecial; athrow -/
theorem vx_throw0 {cc : ByteArray} {pc : Nat} (hexec : p.tables.exec = Jvm.exec) (hb : c.code = cc) (hl : l.stackTraces = false) {own cls : String} {names : List String} {ik ic mc ms : Nat} {A : Nat → Prop}
    (hown : s.vm.findClass own = some m.cls) (hcls : Bundle.fit cls = true) (hnames : ∀ n ∈ names, Bundle.fit n = true)
    (hk : (Cond.classLink own ik cls).before args s = true) (hini : (Cond.initialized cls).before args s = true) (hat : ∀ w ∈ vx_at0 own ic cls names, w.before args s = true)
    (hgood : ∀ w ∈ Cond.classLink own ik cls :: Cond.initialized cls :: vx_at0 own ic cls names, vx_ot w = true)
    (hU : vx_Zq Bundle.tN "UNASSIGNED_STACK" Bundle.steD A s s.heap) (hN : vx_Zq Bundle.tN "SUPPRESSED_SENTINEL" Bundle.listD A s s.heap) (hS : va_S A s.heap H locs) (hsize : ls.size = c.maxLocals)
    (d0 : decode cc pc = .ok (.new ik, 3)) (d3 : decode cc (pc + 3) = .ok (.dup, 1)) (d4 : decode cc (pc + 4) = .ok (.invokespecial ic, 3)) (d7 : decode cc (pc + 7) = .ok (.athrow, 1))
    (hout : ∀ x ∈ c.exceptionTable.toList, covers x (pc + 7) = false)
    (hRframes : names.length + 3 < R.frames) (hRlocals : (rest.map fun v => v.category).sum + (13 * (names.length + 1) + 42) ≤ R.locals) (hRcells : cells + 1 ≤ R.cells) (hRslots : slots + 6 ≤ R.slots) (hlocks : meth.locks = false)
    (hx : ∀ t : State, s.vm.Alike t.vm → H.size ≤ t.heap.size → (∀ q : Nat, q < H.size → t.heap[q]? = H[q]?) → XC cls s t)
    (hf : ∀ z ∈ locs, free z.base) (hc : cells + 1 ≤ mc) (hs : slots + 6 ≤ ms) :
    W p l e R s m args below meth c H locs cells slots (vx_MQ below Qc XC args s mc ms free) (F0 m pc ls rest) := by
  intro T hT X
  have htr : e.platform.stackTraces = false := (show e.platform.stackTraces = l.stackTraces by rw [X.admits.platform]).trans hl
  have Y := vx_rebase X (R' := { frames := R.frames, locals := R.locals, cells := 1, slots := 6 }) (Nat.le_refl _) (Nat.le_refl _) hRcells hRslots
  obtain ⟨s', hA⟩ : ∃ z, z = (T.setVm s.vm).setFrames (.invoking m args :: below) := ⟨_, rfl⟩
  rw [← hA] at Y
  have hvm : s'.vm = s.vm := by rw [hA]; rfl
  have hhp : s'.heap = H := by rw [hA]; exact hT
  have hW0 : s.WarmedH s'.vm := by rw [hvm]; exact State.WarmedH.refl s
  have hat' : ∀ w ∈ vx_at0 own ic cls names, w.before args s' = true := fun w hw => vx_ot_at hW0 hvm.symm (hgood w (List.mem_cons_of_mem _ (List.mem_cons_of_mem _ hw))) (hat w hw)
  have hk' : (Cond.classLink own ik cls).before args s' = true := vx_ot_at hW0 hvm.symm (hgood _ List.mem_cons_self) hk
  have hini' : (Cond.initialized cls).before args s' = true := vx_ot_at hW0 hvm.symm (hgood _ (List.mem_cons_of_mem _ List.mem_cons_self)) hini
  have hU' : vx_Zq Bundle.tN "UNASSIGNED_STACK" Bundle.steD A s' s'.heap := by rw [hhp]; exact vx_Zq.moved hW0.alike (hU.kept hS.2.1)
  have hN' : vx_Zq Bundle.tN "SUPPRESSED_SENTINEL" Bundle.listD A s' s'.heap := by rw [hhp]; exact vx_Zq.moved hW0.alike (hN.kept hS.2.1)
  have h : ∀ w ∈ Bundle.ownAtoms0 own ic cls names, w.before args s' = true := vx_own hat' (vx_isRefq hU'.1) (vx_isRefq hN'.1) hU'.2.word hN'.2.word
  have hown' : s'.vm.findClass own = some m.cls := by rw [hvm]; exact hown
  have hins : (Cond.instantiable cls 6).before args s' = true := h _ (by simp [Bundle.ownAtoms0])
  obtain ⟨vm₁, cX, kX, hfX, hkX, -, -, X₁, st1⟩ := Y.newCold hexec (own := own) (C := cls) (index := ik) (n := 6) hown' hk' hins hini'
    (g := F0 m pc ls rest) rfl (by rw [hb]; exact d0) (Nat.le_refl _) (Nat.le_refl _)
  generalize hT1 : (T.setVm vm₁).pushCell { cls := cX, slots := kX.instanceTypes.map defaultValue, vm := .none } = T1 at X₁ st1
  have hcat : (Value.ref T.heap.size).category = 1 := rfl
  have hcellA : T1.heap[T.heap.size]? = some (freshCell cX kX) := by rw [← hT1]; exact State.heap_pushCell_size _ _
  have d3' : decode c.code (pc + 3) = .ok (.dup, 1) := by rw [hb]; exact d3
  obtain ⟨U, hsteps, hrun, hend, hW, hsame, ce, hce, hO⟩ := X₁.ctorThrow0 hexec htr (own := own) (cls := cls) (names := names) (ic := ic) hown' hcls hnames h (fun x hx => nomatch hx) hfX hkX hcellA (by rw [hhp, hT]; exact Nat.le_refl _)
    (g := { method := m, pc := pc + 4, locals := ls, stack := .ref T.heap.size :: .ref T.heap.size :: rest, locked := none }) rfl hsize rfl rfl (rest := rest) rfl
    (by rw [hb]; exact d4) (by rw [hb]; exact d7) hout hRframes (by simp only [List.map_cons, List.sum_cons, hcat]; omega) hlocks
  obtain ⟨f1, f2⟩ := vx_frame hsame
  rw [hhp] at f1 f2
  have hWs : s.WarmedH U.vm := State.WarmedH.trans hW0 hW
  have hcl : s.vm.findClass cls = some ce.cls := by
    have h9 := hO.cls
    rw [hvm] at h9
    exact h9
  have hall : s.sameButNew ({ U with vm := s.vm } : State) locs mc ms := by
    subst hA
    obtain ⟨e1, e2⟩ := hsame
    rw [State.setFrames_setFrames] at e1
    have h2 : (T.setVm s.vm).sameButNew ({ U with vm := s.vm } : State) [] (0 + 1) (0 + 6) := ⟨e1, e2⟩
    have h3 := X.same.trans h2
    rw [List.append_nil] at h3
    exact h3.mono hc hs
  refine ⟨U, ?_, .threw T.heap.size, hrun, hend, Or.inr ⟨T.heap.size, rfl, cls, ce, locs, hx U hWs.alike f1 (fun q hq => f2 q hq (fun z hz => nomatch hz)), hce, hO.vm, hcl, hWs, hall, hf⟩⟩
  refine st1 _ ?_
  show Steps p.tables e below (T1.setTop { method := m, pc := pc + 3, locals := ls, stack := .ref T.heap.size :: rest, locked := none }) _
  jvm_step X₁.here [X₁.here.top, hexec, d3', Value.category]
  exact hsteps
/-- 'throw new E("text")': new; dup; ldc; invokespecial; athrow -/
theorem vx_throwS {cc : ByteArray} {pc : Nat} (hexec : p.tables.exec = Jvm.exec) (hb : c.code = cc) (hl : l.stackTraces = false) {own cls text : String} {names : List String} {ik is ic mc ms sa : Nat} {A : Nat → Prop}
    (hown : s.vm.findClass own = some m.cls) (hcls : Bundle.fit cls = true) (hnames : ∀ n ∈ names, Bundle.fit n = true)
    (hk : (Cond.classLink own ik cls).before args s = true) (hini : (Cond.initialized cls).before args s = true) (hstr : vk_R own is text sa s) (hat : ∀ w ∈ vx_atS own ic cls names, w.before args s = true)
    (hgood : ∀ w ∈ Cond.classLink own ik cls :: Cond.initialized cls :: vx_atS own ic cls names, vx_ot w = true)
    (hU : vx_Zq Bundle.tN "UNASSIGNED_STACK" Bundle.steD A s s.heap) (hN : vx_Zq Bundle.tN "SUPPRESSED_SENTINEL" Bundle.listD A s s.heap) (hS : va_S A s.heap H locs) (hsize : ls.size = c.maxLocals)
    (d0 : decode cc pc = .ok (.new ik, 3)) (d3 : decode cc (pc + 3) = .ok (.dup, 1)) (d4 : decode cc (pc + 4) = .ok (.ldc is, 2)) (d6 : decode cc (pc + 6) = .ok (.invokespecial ic, 3)) (d9 : decode cc (pc + 9) = .ok (.athrow, 1))
    (hout : ∀ x ∈ c.exceptionTable.toList, covers x (pc + 9) = false)
    (hRframes : names.length + 3 < R.frames) (hRlocals : (rest.map fun v => v.category).sum + (13 * (names.length + 1) + 43) ≤ R.locals) (hRcells : cells + 1 ≤ R.cells) (hRslots : slots + 6 ≤ R.slots) (hlocks : meth.locks = false)
    (hx : ∀ t : State, s.vm.Alike t.vm → H.size ≤ t.heap.size → (∀ q : Nat, q < H.size → t.heap[q]? = H[q]?) → XC cls s t)
    (hf : ∀ z ∈ locs, free z.base) (hc : cells + 1 ≤ mc) (hs : slots + 6 ≤ ms) :
    W p l e R s m args below meth c H locs cells slots (vx_MQ below Qc XC args s mc ms free) (F0 m pc ls rest) := by
  intro T hT X
  have htr : e.platform.stackTraces = false := (show e.platform.stackTraces = l.stackTraces by rw [X.admits.platform]).trans hl
  have Y := vx_rebase X (R' := { frames := R.frames, locals := R.locals, cells := 1, slots := 6 }) (Nat.le_refl _) (Nat.le_refl _) hRcells hRslots
  obtain ⟨s', hA⟩ : ∃ z, z = (T.setVm s.vm).setFrames (.invoking m args :: below) := ⟨_, rfl⟩
  rw [← hA] at Y
  have hvm : s'.vm = s.vm := by rw [hA]; rfl
  have hhp : s'.heap = H := by rw [hA]; exact hT
  have hW0 : s.WarmedH s'.vm := by rw [hvm]; exact State.WarmedH.refl s
  have hat' : ∀ w ∈ vx_atS own ic cls names, w.before args s' = true := fun w hw => vx_ot_at hW0 hvm.symm (hgood w (List.mem_cons_of_mem _ (List.mem_cons_of_mem _ hw))) (hat w hw)
  have hk' : (Cond.classLink own ik cls).before args s' = true := vx_ot_at hW0 hvm.symm (hgood _ List.mem_cons_self) hk
  have hini' : (Cond.initialized cls).before args s' = true := vx_ot_at hW0 hvm.symm (hgood _ (List.mem_cons_of_mem _ List.mem_cons_self)) hini
  have hU' : vx_Zq Bundle.tN "UNASSIGNED_STACK" Bundle.steD A s' s'.heap := by rw [hhp]; exact vx_Zq.moved hW0.alike (hU.kept hS.2.1)
  have hN' : vx_Zq Bundle.tN "SUPPRESSED_SENTINEL" Bundle.listD A s' s'.heap := by rw [hhp]; exact vx_Zq.moved hW0.alike (hN.kept hS.2.1)
  have h : ∀ w ∈ Bundle.ownAtoms own ic cls names, w.before args s' = true := vx_own hat' (vx_isRefq hU'.1) (vx_isRefq hN'.1) hU'.2.word hN'.2.word
  have hown' : s'.vm.findClass own = some m.cls := by rw [hvm]; exact hown
  have hins : (Cond.instantiable cls 6).before args s' = true := h _ (by simp [Bundle.ownAtoms])
  obtain ⟨vm₁, cX, kX, hfX, hkX, -, -, X₁, st1⟩ := Y.newCold hexec (own := own) (C := cls) (index := ik) (n := 6) hown' hk' hins hini'
    (g := F0 m pc ls rest) rfl (by rw [hb]; exact d0) (Nat.le_refl _) (Nat.le_refl _)
  generalize hT1 : (T.setVm vm₁).pushCell { cls := cX, slots := kX.instanceTypes.map defaultValue, vm := .none } = T1 at X₁ st1
  have hcat : (Value.ref T.heap.size).category = 1 := rfl
  have hcellA : T1.heap[T.heap.size]? = some (freshCell cX kX) := by rw [← hT1]; exact State.heap_pushCell_size _ _
  have d3' : decode c.code (pc + 3) = .ok (.dup, 1) := by rw [hb]; exact d3
  have d4' : decode c.code (pc + 4) = .ok (.ldc is, 2) := by rw [hb]; exact d4
  have hstr' : vk_R own is text sa s' := vk_R.warm hW0 hstr
  obtain ⟨U, hsteps, hrun, hend, hW, hsame, ce, hce, hO⟩ := X₁.ctorThrowS hexec htr (own := own) (cls := cls) (names := names) (ic := ic) hown' hcls hnames h (fun x hx => nomatch hx) hfX hkX hcellA (by rw [hhp, hT]; exact Nat.le_refl _) (msg := .ref sa) rfl
    (g := { method := m, pc := pc + 6, locals := ls, stack := .ref sa :: .ref T.heap.size :: .ref T.heap.size :: rest, locked := none }) rfl hsize rfl rfl (rest := rest) rfl
    (by rw [hb]; exact d6) (by rw [hb]; exact d9) hout hRframes (by simp only [List.map_cons, List.sum_cons, hcat]; omega) hlocks
  obtain ⟨f1, f2⟩ := vx_frame hsame
  rw [hhp] at f1 f2
  have hWs : s.WarmedH U.vm := State.WarmedH.trans hW0 hW
  have hcl : s.vm.findClass cls = some ce.cls := by
    have h9 := hO.cls
    rw [hvm] at h9
    exact h9
  have hall : s.sameButNew ({ U with vm := s.vm } : State) locs mc ms := by
    subst hA
    obtain ⟨e1, e2⟩ := hsame
    rw [State.setFrames_setFrames] at e1
    have h2 : (T.setVm s.vm).sameButNew ({ U with vm := s.vm } : State) [] (0 + 1) (0 + 6) := ⟨e1, e2⟩
    have h3 := X.same.trans h2
    rw [List.append_nil] at h3
    exact h3.mono hc hs
  refine ⟨U, ?_, .threw T.heap.size, hrun, hend, Or.inr ⟨T.heap.size, rfl, cls, ce, locs, hx U hWs.alike f1 (fun q hq => f2 q hq (fun z hz => nomatch hz)), hce, hO.vm, hcl, hWs, hall, hf⟩⟩
  refine st1 _ ?_
  show Steps p.tables e below (T1.setTop { method := m, pc := pc + 3, locals := ls, stack := .ref T.heap.size :: rest, locked := none }) _
  jvm_step X₁.here [X₁.here.top, hexec, d3', Value.category]
  exact X₁.ldcString hexec (own := own) (text := text) (index := is) (a := sa) hown' hstr'.1 hstr'.2
    (g := { method := m, pc := pc + 4, locals := ls, stack := .ref T.heap.size :: .ref T.heap.size :: rest, locked := none }) rfl d4' _ hsteps
/-- 'throw new E("text")', the text by a wide index -/
theorem vx_throwSW {cc : ByteArray} {pc : Nat} (hexec : p.tables.exec = Jvm.exec) (hb : c.code = cc) (hl : l.stackTraces = false) {own cls text : String} {names : List String} {ik is ic mc ms sa : Nat} {A : Nat → Prop}
    (hown : s.vm.findClass own = some m.cls) (hcls : Bundle.fit cls = true) (hnames : ∀ n ∈ names, Bundle.fit n = true)
    (hk : (Cond.classLink own ik cls).before args s = true) (hini : (Cond.initialized cls).before args s = true) (hstr : vk_R own is text sa s) (hat : ∀ w ∈ vx_atS own ic cls names, w.before args s = true)
    (hgood : ∀ w ∈ Cond.classLink own ik cls :: Cond.initialized cls :: vx_atS own ic cls names, vx_ot w = true)
    (hU : vx_Zq Bundle.tN "UNASSIGNED_STACK" Bundle.steD A s s.heap) (hN : vx_Zq Bundle.tN "SUPPRESSED_SENTINEL" Bundle.listD A s s.heap) (hS : va_S A s.heap H locs) (hsize : ls.size = c.maxLocals)
    (d0 : decode cc pc = .ok (.new ik, 3)) (d3 : decode cc (pc + 3) = .ok (.dup, 1)) (d4 : decode cc (pc + 4) = .ok (.ldc_w is, 3)) (d7 : decode cc (pc + 7) = .ok (.invokespecial ic, 3)) (d10 : decode cc (pc + 10) = .ok (.athrow, 1))
    (hout : ∀ x ∈ c.exceptionTable.toList, covers x (pc + 10) = false)
    (hRframes : names.length + 3 < R.frames) (hRlocals : (rest.map fun v => v.category).sum + (13 * (names.length + 1) + 43) ≤ R.locals) (hRcells : cells + 1 ≤ R.cells) (hRslots : slots + 6 ≤ R.slots) (hlocks : meth.locks = false)
    (hx : ∀ t : State, s.vm.Alike t.vm → H.size ≤ t.heap.size → (∀ q : Nat, q < H.size → t.heap[q]? = H[q]?) → XC cls s t)
    (hf : ∀ z ∈ locs, free z.base) (hc : cells + 1 ≤ mc) (hs : slots + 6 ≤ ms) :
    W p l e R s m args below meth c H locs cells slots (vx_MQ below Qc XC args s mc ms free) (F0 m pc ls rest) := by
  intro T hT X
  have htr : e.platform.stackTraces = false := (show e.platform.stackTraces = l.stackTraces by rw [X.admits.platform]).trans hl
  have Y := vx_rebase X (R' := { frames := R.frames, locals := R.locals, cells := 1, slots := 6 }) (Nat.le_refl _) (Nat.le_refl _) hRcells hRslots
  obtain ⟨s', hA⟩ : ∃ z, z = (T.setVm s.vm).setFrames (.invoking m args :: below) := ⟨_, rfl⟩
  rw [← hA] at Y
  have hvm : s'.vm = s.vm := by rw [hA]; rfl
  have hhp : s'.heap = H := by rw [hA]; exact hT
  have hW0 : s.WarmedH s'.vm := by rw [hvm]; exact State.WarmedH.refl s
  have hat' : ∀ w ∈ vx_atS own ic cls names, w.before args s' = true := fun w hw => vx_ot_at hW0 hvm.symm (hgood w (List.mem_cons_of_mem _ (List.mem_cons_of_mem _ hw))) (hat w hw)
  have hk' : (Cond.classLink own ik cls).before args s' = true := vx_ot_at hW0 hvm.symm (hgood _ List.mem_cons_self) hk
  have hini' : (Cond.initialized cls).before args s' = true := vx_ot_at hW0 hvm.symm (hgood _ (List.mem_cons_of_mem _ List.mem_cons_self)) hini
  have hU' : vx_Zq Bundle.tN "UNASSIGNED_STACK" Bundle.steD A s' s'.heap := by rw [hhp]; exact vx_Zq.moved hW0.alike (hU.kept hS.2.1)
  have hN' : vx_Zq Bundle.tN "SUPPRESSED_SENTINEL" Bundle.listD A s' s'.heap := by rw [hhp]; exact vx_Zq.moved hW0.alike (hN.kept hS.2.1)
  have h : ∀ w ∈ Bundle.ownAtoms own ic cls names, w.before args s' = true := vx_own hat' (vx_isRefq hU'.1) (vx_isRefq hN'.1) hU'.2.word hN'.2.word
  have hown' : s'.vm.findClass own = some m.cls := by rw [hvm]; exact hown
  have hins : (Cond.instantiable cls 6).before args s' = true := h _ (by simp [Bundle.ownAtoms])
  obtain ⟨vm₁, cX, kX, hfX, hkX, -, -, X₁, st1⟩ := Y.newCold hexec (own := own) (C := cls) (index := ik) (n := 6) hown' hk' hins hini'
    (g := F0 m pc ls rest) rfl (by rw [hb]; exact d0) (Nat.le_refl _) (Nat.le_refl _)
  generalize hT1 : (T.setVm vm₁).pushCell { cls := cX, slots := kX.instanceTypes.map defaultValue, vm := .none } = T1 at X₁ st1
  have hcat : (Value.ref T.heap.size).category = 1 := rfl
  have hcellA : T1.heap[T.heap.size]? = some (freshCell cX kX) := by rw [← hT1]; exact State.heap_pushCell_size _ _
  have d3' : decode c.code (pc + 3) = .ok (.dup, 1) := by rw [hb]; exact d3
  have d4' : decode c.code (pc + 4) = .ok (.ldc_w is, 3) := by rw [hb]; exact d4
  have hstr' : vk_R own is text sa s' := vk_R.warm hW0 hstr
  obtain ⟨U, hsteps, hrun, hend, hW, hsame, ce, hce, hO⟩ := X₁.ctorThrowS hexec htr (own := own) (cls := cls) (names := names) (ic := ic) hown' hcls hnames h (fun x hx => nomatch hx) hfX hkX hcellA (by rw [hhp, hT]; exact Nat.le_refl _) (msg := .ref sa) rfl
    (g := { method := m, pc := pc + 7, locals := ls, stack := .ref sa :: .ref T.heap.size :: .ref T.heap.size :: rest, locked := none }) rfl hsize rfl rfl (rest := rest) rfl
    (by rw [hb]; exact d7) (by rw [hb]; exact d10) hout hRframes (by simp only [List.map_cons, List.sum_cons, hcat]; omega) hlocks
  obtain ⟨f1, f2⟩ := vx_frame hsame
  rw [hhp] at f1 f2
  have hWs : s.WarmedH U.vm := State.WarmedH.trans hW0 hW
  have hcl : s.vm.findClass cls = some ce.cls := by
    have h9 := hO.cls
    rw [hvm] at h9
    exact h9
  have hall : s.sameButNew ({ U with vm := s.vm } : State) locs mc ms := by
    subst hA
    obtain ⟨e1, e2⟩ := hsame
    rw [State.setFrames_setFrames] at e1
    have h2 : (T.setVm s.vm).sameButNew ({ U with vm := s.vm } : State) [] (0 + 1) (0 + 6) := ⟨e1, e2⟩
    have h3 := X.same.trans h2
    rw [List.append_nil] at h3
    exact h3.mono hc hs
  refine ⟨U, ?_, .threw T.heap.size, hrun, hend, Or.inr ⟨T.heap.size, rfl, cls, ce, locs, hx U hWs.alike f1 (fun q hq => f2 q hq (fun z hz => nomatch hz)), hce, hO.vm, hcl, hWs, hall, hf⟩⟩
  refine st1 _ ?_
  show Steps p.tables e below (T1.setTop { method := m, pc := pc + 3, locals := ls, stack := .ref T.heap.size :: rest, locked := none }) _
  jvm_step X₁.here [X₁.here.top, hexec, d3', Value.category]
  exact X₁.ldcStringW hexec (own := own) (text := text) (index := is) (a := sa) hown' hstr'.1 hstr'.2
    (g := { method := m, pc := pc + 4, locals := ls, stack := .ref T.heap.size :: .ref T.heap.size :: rest, locked := none }) rfl d4' _ hsteps
end Ends
section Bodies
variable {l : Launch}
theorem vx_ofW {y : MethodName} {ws ws' : List Cond} {rm : Room} {Pc : Array Value → State → Prop} {Qc : Array Value → State → Outcome → State → Prop} {XC : String → State → State → Prop} {mc ms : Nat} {free : Addr → Prop} {cc : ByteArray} {maxL : Nat} {ret : Option FieldType}
    (hy : plainName y.cls = true) (hw : ws = Cond.code y cc maxL ret :: ws')
    (body : ∀ p e s m args below meth c s₁, BodyLoose p l y (headSpec ws rm) cc maxL ret e s m args below meth c s₁ → c.maxLocals = maxL → (∀ x ∈ c.exceptionTable.toList, False) → Pc args s →
      W p l e (headSpec ws rm).room s m args below meth c s.heap [] 0 0 (vx_MQ below Qc XC args s mc ms free) (entryFrame m args maxL)) : vx_Met l y ws rm Pc Qc XC mc ms free := by
  refine MetFree.of_bodyS (code := cc) (maxLocals := maxL) (ret := ret) hy ?_ ?_
  · intro args s m h hn
    obtain ⟨meth, c, h1, h2, h3, h4, h5, h6, -, -⟩ := Cond.code_spec hn (atoms_spec (ws := ws) h _ (by rw [hw]; exact List.mem_cons_self))
    exact ⟨meth, c, h1, h2, h3, h4, h5, h6⟩
  · intro p e s m args below meth c s₁ B hml hP _
    have hh0 : s₁.heap = s.heap := by rw [B.state]; rfl
    have ht : ∀ x ∈ c.exceptionTable.toList, False := by
      obtain ⟨meth9, c9, h1, h2, -, -, -, -, h7, -⟩ := Cond.code_spec B.named (atoms_spec (ws := ws) B.pre _ (by rw [hw]; exact List.mem_cons_self))
      cases Option.some.inj (h1.symm.trans B.method)
      cases Option.some.inj (h2.symm.trans (Stand.of_body B).code)
      intro x hx
      rw [Array.isEmpty_iff.mp h7] at hx
      cases hx
    obtain ⟨t, a1, o, b1, b2, b3⟩ := body p e s m args below meth c s₁ B hml ht hP s₁ hh0 (Stand.of_body B)
    exact ⟨t, o, a1, b1, b2, b3⟩
/-- the table of a body with handlers -/
theorem vx_table {p : Program} {x y : MethodName} {S : Spec} {cc bytes : ByteArray} {maxL maxL' : Nat} {ret ret' : Option FieldType} {e : Env} {s s₁ : State} {m : MethodId} {args : Array Value} {below : List Frame} {meth : Method} {c : Code} {hh : List (Nat × Nat × Nat × Nat)}
    (B : BodyLoose p l y S cc maxL ret e s m args below meth c s₁) (h : (Cond.codeWith y bytes maxL' ret' hh).before args s = true) : c.exceptionTable.toList = tableOf hh := by
  obtain ⟨m9, meth9, c9, hn9, h1, h2, -, -, h6, -⟩ := Cond.codeWith_spec h
  cases Option.some.inj (hn9.symm.trans B.named)
  cases Option.some.inj (h1.symm.trans B.method)
  cases Option.some.inj (h2.symm.trans (Stand.of_body B).code)
  rw [← h6, table_eq]
end Bodies
end VXA
/-! ===== END ===== -/
/-! ===== BEGIN a static call of a method with an exception table ===== -/
section VXS
variable {p : Program} {l : Launch} {e : Env} {R : Room} {s : State} {m : MethodId} {args : Array Value} {below : List Frame} {meth : Method} {c : Code} {T : State} {H : Heap} {locs : List Loc} {cells slots : Nat}
abbrev vx_CSW (R : Room) (s : State) (args : Array Value) (own : String) (index : Nat) (y : MethodName) (bytes : ByteArray) (maxL : Nat) (ret : Option FieldType) (hh : List (Nat × Nat × Nat × Nat)) (ws : List Cond) (rm : Room) (mc ms n : Nat) : Prop :=
  (rm.cells = mc ∧ rm.slots = ms ∧ rm.frames + 1 ≤ R.frames ∧ 8 + (maxL + 11) + rm.locals ≤ R.locals ∧ (∀ w ∈ ws, ∀ (a' : Array Value) (U : State), s.WarmedH U.vm → w.before a' U = true) ∧ Cond.codeWith y bytes maxL ret hh ∈ ws) ∧
  (Cond.codeWith y bytes maxL ret hh).before args s = true ∧ (Cond.initialized y.cls).before args s = true ∧ (y.cls ≠ "java/lang/invoke/MethodHandle" ∧ y.cls ≠ "java/lang/invoke/VarHandle") ∧
  (∀ sig, parseMethodDescriptor y.desc = some sig → n = sig.parameters.length) ∧ (Cond.methodLink own index y).before args s = true ∧ (Cond.static y).before args s = true
theorem vx_cwSW {own : String} {index maxL mc ms : Nat} {y : MethodName} {bytes : ByteArray} {ret : Option FieldType} {hh : List (Nat × Nat × Nat × Nat)} {Ts ws ws' : List Cond} {rm : Room} (n : Nat) (ht : ∀ w ∈ Ts, w.before args s = true) (hT : GoodIn Ts (va_wsS own index y ws)) (hw : ws = Cond.codeWith y bytes maxL ret hh :: ws') (hrc : rm.cells = mc) (hrs : rm.slots = ms)
    (hd : y.cls ≠ "java/lang/invoke/MethodHandle" ∧ y.cls ≠ "java/lang/invoke/VarHandle" ∧ (parseMethodDescriptor y.desc).map (fun d => d.parameters.length) = some n) (hR : rm.frames + 1 ≤ R.frames ∧ 8 + (maxL + 11) + rm.locals ≤ R.locals) :
    vx_CSW R s args own index y bytes maxL ret hh ws rm mc ms n := by
  have ok : ∀ w ∈ va_wsS own index y ws, w.before args s = true := fun w h => ht w (hT w h).1
  have hG : GoodIn Ts ws := fun w h => hT w (by unfold va_wsS; exact List.mem_append_right _ h)
  have hc : Cond.codeWith y bytes maxL ret hh ∈ ws := by rw [hw]; exact List.mem_cons_self
  refine ⟨⟨hrc, hrs, hR.1, hR.2, pay_in ht hG, hc⟩, ht _ (hG _ hc).1, ok _ (by simp [va_wsS]), ⟨hd.1, hd.2.1⟩, fun sig h => ?_, ok _ (by simp [va_wsS]), ok _ (by simp [va_wsS])⟩
  have h2 := hd.2.2
  rw [h] at h2
  exact (Option.some.inj h2).symm
theorem vx_callSW (X : Stand p l e R s m args below meth c T locs cells slots) (hexec : p.tables.exec = Jvm.exec) {own : String} {index : Nat} {y : MethodName} {bytes : ByteArray} {maxL : Nat} {ret : Option FieldType} {hh : List (Nat × Nat × Nat × Nat)}
    (hown : s.vm.findClass own = some m.cls) (hlink : (Cond.methodLink own index y).before args s = true) (hstat : (Cond.static y).before args s = true) (hinit : (Cond.initialized y.cls).before args s = true)
    (hcode : (Cond.codeWith y bytes maxL ret hh).before args s = true) (hy : y.cls ≠ "java/lang/invoke/MethodHandle" ∧ y.cls ≠ "java/lang/invoke/VarHandle")
    {W9 : Nat} {Pre : Pt → Array Value → Prop} {Post : Pt → Array Value → Option Value → Pt → Prop} (hK : Back l R p e below s args y 3 W9 Pre Post)
    {g : JFrame} (hg : g.method = m) (hsize : g.locals.size = c.maxLocals) {argsL rest : List Value} (hlen : ∀ sig, parseMethodDescriptor y.desc = some sig → argsL.length = sig.parameters.length)
    (hstack : g.stack = argsL.reverse ++ rest) (hW : 2 * g.monitorRoom + (rest.map fun v => v.category).sum ≤ W9) (hdg : decode c.code g.pc = .ok (.invokestatic index, 3))
    (hpre : ∀ vm₁, s.WarmedH vm₁ → Pre ⟨T.setVm vm₁, locs, cells, slots⟩ argsL.toArray) :
    ∃ (v : Option Value) (vm₁ : Vm) (B : Pt), s.WarmedH vm₁ ∧ Stand p l e R s m args below meth c B.U B.locs B.cells B.slots ∧ Post ⟨T.setVm vm₁, locs, cells, slots⟩ argsL.toArray v B ∧
      ∀ target, Steps p.tables e below (B.U.setTop { g with pc := g.pc + 3, stack := v.toList ++ rest }) target → Steps p.tables e below (T.setTop g) target := by
  obtain ⟨mk, methM, cM, hnamed, hmethM, -, -, -, -, -, -, hsigM⟩ := Cond.codeWith_spec hcode
  have hstatic : methM.isStatic = true := Cond.static_spec hnamed hmethM hstat
  obtain ⟨kP, hkP, -⟩ := className_of_methodNamed hnamed
  have hinitP : kP.init = .initialized := Cond.initialized_spec (findClass_of_methodNamed hnamed) hkP hinit
  obtain ⟨vm₁, X₁, hstep₁⟩ := X.invokestatic hexec hown hlink hnamed hmethM hstatic hkP hinitP hy (g := g) hg (argsL := argsL) (rest := rest) (hlen _ hsigM) hstack hdg
  obtain ⟨v, B, X', hpost, hsteps⟩ := hK m meth c ⟨T.setVm vm₁, locs, cells, slots⟩ { g with stack := rest } (.invokestatic index) mk argsL.toArray X₁ hg hsize hdg hW (X₁.named hnamed) (hpre vm₁ X₁.warmed)
  exact ⟨v, vm₁, B, X₁.warmed, X', hpost, fun target h => hstep₁ _ fun acts => by rw [doInvoke_state]; exact hsteps.trans h⟩
theorem vx_runSW {y : MethodName} {bytes cc : ByteArray} {maxL nL mc ms n index : Nat} {ret : Option FieldType} {hh : List (Nat × Nat × Nat × Nat)} {ws : List Cond} {rm : Room} {Pc : Array Value → State → Prop} {Qc : Array Value → State → Outcome → State → Prop} {free : Addr → Prop} {Ts : List Cond} {own : String} {As rest : List Value} {g : JFrame}
    (S : CallFix p m c cc nL s args Ts own) (hM : Met l y ws rm Pc Qc mc ms free) (cw : vx_CSW R s args own index y bytes maxL ret hh ws rm mc ms n) (hp : PreS s H Pc As)
    (hg : g.method = m) (hn : As.length = n) (hsize : g.locals.size = nL) (hstack : g.stack = As.reverse ++ rest) (hW : 2 * g.monitorRoom + (rest.map fun v => v.category).sum ≤ 8) (hdg : decode cc g.pc = .ok (.invokestatic index, 3)) (hf : cells + mc ≤ R.cells ∧ slots + ms ≤ R.slots) :
    va_Run p l e R s m args below meth c H locs cells slots mc ms g rest (Qc As.toArray) (free) := by
  obtain ⟨⟨hrc, hrs, hfr, hlo, hws, hcw⟩, hcode, hini, hy, hlen, hl, hstt⟩ := cw
  have hK : Back l R p e below s args y 3 8 (PreOf R mc ms Pc) (PostOf Qc mc ms free) := va_backW (hh := hh) (bytes := bytes) (maxL := maxL) (ret := ret) hM hp.1 hrc hrs hfr hlo hws hcw (fun a' U hW => word_at hW (Or.inl (by first | rfl | simp [Cond.onTables, Cond.keeps, Cond.steady])) hini)
  obtain ⟨hx, hb, hml, ho, -⟩ := S
  intro T hT X
  obtain ⟨v, vm₁, ⟨U', l2, c2, s2⟩, hW₁, X', ⟨g', mk, t, L, e1, e2, hq, h1, hL, h2, h3⟩, st⟩ := vx_callSW X hx (hh := hh) (bytes := bytes) (maxL := maxL) (ret := ret) ho hl hstt hini hcode hy hK hg (hsize.trans hml.symm) (argsL := As) (rest := rest) (fun sig h => hn.trans (hlen sig h)) hstack hW (by rw [hb]; exact hdg)
    (fun vm₁ hW₁ => ⟨hf.1, hf.2, hp.2 (T.setVm vm₁) hT hW₁⟩)
  dsimp only [Pt.U, Pt.locs, Pt.cells, Pt.slots] at X' e1 e2 h1 h2 h3 st
  subst h1; subst h2; subst h3
  exact ⟨v, (T.setVm vm₁).calling g' mk As.toArray, t, U', L, hT, X', hL, e1, e2, hq, st⟩
/-- not caught here, past rows that name other classes: it goes on to the caller -/
theorem vx_outP {p : Program} {l : Launch} {e : Env} {R : Room} {s : State} {m : MethodId} {args : Array Value} {below : List Frame} {meth : Method} {c : Code} {H : Heap} {locs : List Loc} {cells slots : Nat} {free : Addr → Prop} {ls : Array Slot} {rest : List Value} {Qc : Array Value → State → Outcome → State → Prop} {XC : String → State → State → Prop}
    {pc : Nat} {own E : String} {ce : Cell} {q : Addr} {mc ms : Nat} (hown : s.vm.findClass own = some m.cls) (hlocks : meth.locks = false)
    (hpass : ∀ z ∈ c.exceptionTable.toList, covers z pc = false ∨ (z.catchType ≠ 0 ∧ ∃ nm : String, (Cond.classLink own z.catchType nm).before args s = true ∧ va_Nc E nm s)) (hcell : H[q]? = some ce) (hv : ce.vm = .none) (hcl : s.vm.findClass E = some ce.cls)
    (hx : ∀ t : State, t.heap = H → s.vm.Alike t.vm → XC E s t) (hf : ∀ z ∈ locs, free z.base) (hc : cells ≤ mc) (hs : slots ≤ ms) :
    vx_W p l e R s m args below meth c H locs cells slots (vx_MQ below Qc XC args s mc ms free) (F0 m pc ls rest) q := by
  intro T hT X
  have hpl : e.platform.magicAccessors = ({} : Platform).magicAccessors := by rw [X.admits.platform]
  obtain ⟨vm', hW', X', st⟩ := X.outThrough hlocks q (g := F0 m pc ls rest) rfl rfl rfl (cell := ce) (by rw [hT]; exact hcell) (by rw [hv]; rfl)
    (by obtain ⟨k9, h9, -⟩ := Vm.findClass_spec hcl; exact ⟨k9, h9⟩) (fun z hz => by
      rcases hpass z hz with h | ⟨hz0, nm, hl1, hn1⟩
      · exact Or.inl h
      · obtain ⟨c6, hc6, hcl6⟩ := Cond.classLink_spec hown hl1 e.platform hpl
        obtain ⟨a8, b8, h1, h2, h3⟩ := hn1
        cases Option.some.inj (h1.symm.trans hcl)
        cases Option.some.inj (h2.symm.trans hc6)
        exact Or.inr ⟨hz0, _, hcl6, h3⟩)
  obtain ⟨g₀, hfr⟩ := X'.frames_eq
  have hcell9 : ((T.setVm vm').setFrames (.throwing q :: below)).heap[q]? = some ce := by
    show T.heap[q]? = some ce
    rw [hT]; exact hcell
  have hend : Ended ((T.setVm vm').setFrames (.throwing q :: below)) below (.threw q) := State.frames_setFrames _ (State.cur_lt_of_frames hfr)
  refine ⟨(T.setVm vm').setFrames (.throwing q :: below), ?_, .threw q, X'.here.running, hend, Or.inr ⟨q, rfl, E, ce, locs, hx _ hT (X'.ends _).1.alike, hcell9, hv, hcl, (X'.ends _).1, (X'.ends _).2.mono hc hs, hf⟩⟩
  rw [X.pushThrowing_eq]
  exact st
/-- a thing of a world lies in the heap -/
theorem vx_lt {D : va_G} {cl : List vw_C} {ws : va_W} {H1 : Heap} (h : va_P D cl ws H1) {k : Nat} {q : Nat × va_E} (hk : ws[k]? = some q) : q.1 < H1.size := (h k q hk).lt
end VXS
/-! ===== END ===== -/
/-! ===== BEGIN methods with a table of their own: called by a name, returning or throwing ===== -/
section VXH
/-! vx_backW, vx_callVX, vx_callSX, vx_callVW, vx_runVW, vx_runVX, vx_runSX, vx_ofWH follow the same proofs as their sisters above (Free/Laws.lean, Shelf42/LK1.lean); vx_outP calls Shelf42/NT130.lean (outThrough). -/
section
variable {l : Launch} {R : Room} {p : Program} {e : Env} {below : List Frame} {s : State} {sargs : Array Value} {y : MethodName} {len W9 : Nat}
theorem vx_backW {ws : List Cond} {rm : Room} {Pc : Array Value → State → Prop} {Qc : Array Value → State → Outcome → State → Prop} {XC : String → State → State → Prop} {mc ms : Nat} {free : Addr → Prop} {bytes : ByteArray} {maxL : Nat} {ret : Option FieldType} {hh : List (Nat × Nat × Nat × Nat)}
    (hM : vx_Met l y ws rm Pc Qc XC mc ms free) (hblind : FrameBlind Pc) (hrc : rm.cells = mc) (hrs : rm.slots = ms)
    (hframes : rm.frames + 1 ≤ R.frames) (hlocals : W9 + (maxL + 11) + rm.locals ≤ R.locals)
    (hws : ∀ w ∈ ws, ∀ a' U, s.WarmedH U.vm → w.before a' U = true) (hcode : Cond.codeWith y bytes maxL ret hh ∈ ws) (hinit : ∀ a' U, s.WarmedH U.vm → (Cond.initialized y.cls).before a' U = true) :
    vx_Back l R p e below s sargs y len W9 (PreOf R mc ms Pc) (PostOf Qc mc ms free) (vx_Post XC mc ms free) := by
  intro m meth c A g ig mk a X hg hsize hdg hW hn hp
  have h1 : (headSpec ws rm).pre.before a A.U = true := atoms_intro fun w hw => hws w hw _ _ X.warmed
  have h2 : (Cond.codeWith y bytes maxL ret hh).before a A.U = true := hws _ hcode _ _ X.warmed
  have h3 : (Cond.initialized y.cls).before a A.U = true := hinit _ _ X.warmed
  have h4 : A.cells + (headSpec ws rm).room.cells ≤ R.cells := by rw [show (headSpec ws rm).room.cells = mc from hrc]; exact hp.1
  have h5 : A.slots + (headSpec ws rm).room.slots ≤ R.slots := by rw [show (headSpec ws rm).room.slots = ms from hrs]; exact hp.2.1
  have hPc : Pc a (A.U.calling g mk a) := hblind _ _ _ _ hp.2.2
  obtain ⟨U, Ls, c0, s0⟩ := A
  dsimp only [Pt.U, Pt.locs, Pt.cells, Pt.slots] at h1 h2 h3 h4 h5 X hn hPc ⊢
  obtain ⟨m9, methY, cY, hn9, hmY, hcY, -, hlY, -⟩ := Cond.codeWith_spec h2
  cases Option.some.inj (hn9.symm.trans hn)
  obtain ⟨kY, hkY, -⟩ := className_of_methodNamed hn
  have hinitY : kY.init = .initialized := Cond.initialized_spec (findClass_of_methodNamed hn) hkY h3
  have h : At U g.method c below := by rw [hg]; exact X.here
  have hlocals9 : W9 + (maxL + 11) + (headSpec ws rm).room.locals ≤ R.locals := hlocals
  have happ : (headSpec ws rm).appliesLoose y e.platform (U.calling g mk a) = true :=
    Spec.appliesLoose_calling (g := g) h hdg hn hkY hinitY
      (X.room_calling (g := g) (R' := (headSpec ws rm).room) hsize hmY hcY hframes (by rw [hlY]; omega) h4 h5) h1
  obtain ⟨mid, hmid⟩ := h.above
  have hfr : (U.setTop g).frames = (.java g :: mid) ++ below := by rw [State.frames_setTop' g h.top, hmid]; rfl
  obtain ⟨o, s₂, hsteps, -, hend, hq⟩ := Steps.callFree hM p X.admits X.cas X.clock (acts := []) hfr happ hPc trivial
  have hq' : vx_Q Qc XC mc ms free a (U.calling g mk a) o s₂ := hq
  rw [State.frames_setTop' g h.top] at hend
  obtain ⟨g₀, hg0⟩ := Option.isSome_iff_exists.mp h.top
  obtain ⟨r, hr⟩ := State.topJava?_eq_some.mp hg0
  have hr' : (({ U with heap := s₂.heap, slotsUsed := s₂.slotsUsed } : State).setVm s₂.vm).frames = .java g₀ :: r := hr
  rcases hq' with ⟨hqc, L, hfe, hL⟩ | ⟨q, rfl, E, ce, L, hx, hce, hcv, hcl, hW₂, hsm, hL⟩
  · obtain ⟨⟨v, rfl⟩, hW₂, e2, q2, q3, q4, q5, q6⟩ := id hfe
    have e3 : s₂ = ({ (U.calling g mk a).setFrames s₂.frames with heap := s₂.heap, slotsUsed := s₂.slotsUsed } : State).setVm s₂.vm := by
      have : s₂ = ({ s₂ with vm := (U.calling g mk a).vm } : State).setVm s₂.vm := rfl
      rw [e2] at this
      exact this
    obtain ⟨c₂, i₂, len₂, hc₂, hd₂, hf₂⟩ := hend
    have hW' : U.WarmedH s₂.vm := hW₂
    have hcc : c₂ = c := by
      have h1 : s₂.code? g.method = U.code? g.method := by
        rw [State.code?_eq, State.code?_eq, hW'.alike.method?]
      exact Option.some.inj (hc₂.symm.trans (h1.trans h.code))
    subst hcc
    have hlen : len₂ = len := by rw [hdg] at hd₂; cases hd₂; rfl
    subst hlen
    have hs₂ : s₂ = (({ U with heap := s₂.heap, slotsUsed := s₂.slotsUsed } : State).setVm s₂.vm).setTop { g with pc := g.pc + len₂, stack := v.toList ++ g.stack } := by
      refine e3.trans ?_
      rw [hf₂, State.calling_eq h.top, State.setFrames_setFrames, State.setTop_of_frames _ hr', hr]
      rfl
    have hsame : U.sameButNew ({ U with heap := s₂.heap, slotsUsed := s₂.slotsUsed } : State) L mc ms := by
      refine ⟨?_, q2, q3, q4, q5, q6⟩
      obtain ⟨t, ht, -⟩ := State.frames_cons hr
      show ({ U with heap := s₂.heap, slotsUsed := s₂.slotsUsed } : State) = { U.setFrames U.frames with heap := s₂.heap, slotsUsed := s₂.slotsUsed }
      rw [State.setFrames_self ht]
    subst hg
    refine Or.inl ⟨v, ⟨(({ U with heap := s₂.heap, slotsUsed := s₂.slotsUsed } : State).setVm s₂.vm), Ls ++ L, c0 + mc, s0 + ms⟩,
      ⟨X.admits, X.cas, X.clock, X.frames, X.room, X.hears, X.method, X.code, (X.here.setHeapUsed s₂.heap s₂.slotsUsed).setVm hW'.alike, X.tail, State.WarmedH.trans X.warmed hW', X.limits, X.bytes, X.same.trans (hsame.setVm s.vm)⟩,
      ⟨g, mk, s₂, L, rfl, rfl, hqc, rfl, hL, rfl, rfl⟩, ?_⟩
    show Steps p.tables e below _ ((({ U with heap := s₂.heap, slotsUsed := s₂.slotsUsed } : State).setVm s₂.vm).setTop { g with pc := g.pc + len₂, stack := v.toList ++ g.stack })
    rw [← hs₂]
    exact hsteps
  · obtain ⟨e2, q2, q3, q4, q5, q6⟩ := id hsm
    have e3 : s₂ = ({ (U.calling g mk a).setFrames s₂.frames with heap := s₂.heap, slotsUsed := s₂.slotsUsed } : State).setVm s₂.vm := by
      have : s₂ = ({ s₂ with vm := (U.calling g mk a).vm } : State).setVm s₂.vm := rfl
      rw [e2] at this
      exact this
    have hf₂ : s₂.frames = .throwing q :: .java g :: U.frames.tail := hend
    have hW' : U.WarmedH s₂.vm := hW₂
    have hs₂ : s₂ = ((({ U with heap := s₂.heap, slotsUsed := s₂.slotsUsed } : State).setVm s₂.vm).setTop g).pushFrame (.throwing q) := by
      refine e3.trans ?_
      rw [hf₂, State.calling_eq h.top, State.setFrames_setFrames, State.pushFrame, State.frames_setTop _ hr', State.setTop_of_frames _ hr', State.setFrames_setFrames, hr]
      rfl
    have hsame : U.sameButNew ({ U with heap := s₂.heap, slotsUsed := s₂.slotsUsed } : State) L mc ms := by
      refine ⟨?_, q2, q3, q4, q5, q6⟩
      obtain ⟨t, ht, -⟩ := State.frames_cons hr
      show ({ U with heap := s₂.heap, slotsUsed := s₂.slotsUsed } : State) = { U.setFrames U.frames with heap := s₂.heap, slotsUsed := s₂.slotsUsed }
      rw [State.setFrames_self ht]
    subst hg
    refine Or.inr ⟨q, ⟨(({ U with heap := s₂.heap, slotsUsed := s₂.slotsUsed } : State).setVm s₂.vm), Ls ++ L, c0 + mc, s0 + ms⟩,
      ⟨X.admits, X.cas, X.clock, X.frames, X.room, X.hears, X.method, X.code, (X.here.setHeapUsed s₂.heap s₂.slotsUsed).setVm hW'.alike, X.tail, State.WarmedH.trans X.warmed hW', X.limits, X.bytes, X.same.trans (hsame.setVm s.vm)⟩,
      ⟨g, mk, s₂, L, E, ce, rfl, rfl, hx, hce, hcv, hcl, rfl, hL, rfl, rfl⟩, ?_⟩
    show Steps p.tables e below _ (((({ U with heap := s₂.heap, slotsUsed := s₂.slotsUsed } : State).setVm s₂.vm).setTop g).pushFrame (.throwing q))
    rw [← hs₂]
    exact hsteps
end
variable {p : Program} {l : Launch} {e : Env} {R : Room} {s : State} {m : MethodId} {args : Array Value} {below : List Frame} {meth : Method} {c : Code} {T : State} {H : Heap} {locs : List Loc} {cells slots : Nat}
theorem vx_callVX (X : Stand p l e R s m args below meth c T locs cells slots) (hexec : p.tables.exec = Jvm.exec) {own C : String} {index : Nat} {y : MethodName} {bytes : ByteArray} {maxL : Nat} {ret : Option FieldType} {hh : List (Nat × Nat × Nat × Nat)}
    (hown : s.vm.findClass own = some m.cls) (hlink : (Cond.methodLink own index y).before args s = true) (hinst : (Cond.instanceMethod y).before args s = true) (hsel : (Cond.selects C y y).before args s = true)
    (hcode : (Cond.codeWith y bytes maxL ret hh).before args s = true) (hy : y.cls ≠ "java/lang/invoke/MethodHandle" ∧ y.cls ≠ "java/lang/invoke/VarHandle")
    {W9 : Nat} {Pre : Pt → Array Value → Prop} {Post : Pt → Array Value → Option Value → Pt → Prop} {PostX : Pt → Array Value → Addr → Pt → Prop} (hK : vx_Back l R p e below s args y 3 W9 Pre Post PostX)
    {b : Addr} {cellB : Cell} (hcell : T.heap[b]? = some cellB) (hobj : cellB.vm.isStatics = false) (hcls : s.vm.findClass C = some cellB.cls)
    {g : JFrame} (hg : g.method = m) (hsize : g.locals.size = c.maxLocals) {argsL rest : List Value} (hlen : ∀ sig, parseMethodDescriptor y.desc = some sig → argsL.length = sig.parameters.length)
    (hstack : g.stack = argsL.reverse ++ .ref b :: rest) (hW : 2 * g.monitorRoom + (rest.map fun v => v.category).sum ≤ W9) (hdg : decode c.code g.pc = .ok (.invokevirtual index, 3))
    (hpre : ∀ vm₁, s.WarmedH vm₁ → Pre ⟨T.setVm vm₁, locs, cells, slots⟩ (Value.ref b :: argsL).toArray) :
    (∃ (v : Option Value) (vm₁ : Vm) (B : Pt), s.WarmedH vm₁ ∧ Stand p l e R s m args below meth c B.U B.locs B.cells B.slots ∧ Post ⟨T.setVm vm₁, locs, cells, slots⟩ (Value.ref b :: argsL).toArray v B ∧
      ∀ target, Steps p.tables e below (B.U.setTop { g with pc := g.pc + 3, stack := v.toList ++ rest }) target → Steps p.tables e below (T.setTop g) target) ∨
    (∃ (q : Addr) (vm₁ : Vm) (B : Pt), s.WarmedH vm₁ ∧ Stand p l e R s m args below meth c B.U B.locs B.cells B.slots ∧ PostX ⟨T.setVm vm₁, locs, cells, slots⟩ (Value.ref b :: argsL).toArray q B ∧
      Steps p.tables e below (T.setTop g) ((B.U.setTop { g with stack := rest }).pushFrame (.throwing q))) := by
  obtain ⟨mk, methM, hnamed, hmethM, hstM, habM⟩ := Cond.instanceMethod_spec hinst
  obtain ⟨m8, methM', cM, hn8, hmethM', -, -, -, -, -, -, hsigM⟩ := Cond.codeWith_spec hcode
  cases Option.some.inj (hn8.symm.trans hnamed)
  cases hmethM.symm.trans hmethM'
  obtain ⟨c2, r2, m2, q1, q2, q3, q4, kP, hkP, hkPi⟩ := Cond.selects_spec hsel
  cases hcls.symm.trans q1
  cases (State.methodFound?_of_named hnamed hy).symm.trans q2
  cases hnamed.symm.trans q3
  have hselP : selectMethod e.platform s.vm cellB.cls mk = .method mk := by rw [Launch.admits_selectMethod X.admits]; exact q4
  obtain ⟨vm₁, X₁, hstep₁⟩ := X.invokevirtual hexec hown hlink hnamed hmethM hstM hkP hkPi hy (a := b) (cell := cellB) hcell
    (fun z h => by rw [h] at hobj; cases hobj) hselP hmethM habM hkP hkPi (g := g) hg (argsL := argsL) (rest := rest) (hlen _ hsigM) hstack hdg
  rcases hK m meth c ⟨T.setVm vm₁, locs, cells, slots⟩ { g with stack := rest } (.invokevirtual index) mk (Value.ref b :: argsL).toArray X₁ hg hsize hdg hW (X₁.named hnamed) (hpre vm₁ X₁.warmed) with ⟨v, B, X', hpost, hsteps⟩ | ⟨q, B, X', hpost, hsteps⟩
  · exact Or.inl ⟨v, vm₁, B, X₁.warmed, X', hpost, fun target h => hstep₁ _ fun acts => by rw [doInvoke_state]; exact hsteps.trans h⟩
  · exact Or.inr ⟨q, vm₁, B, X₁.warmed, X', hpost, hstep₁ _ fun acts => by rw [doInvoke_state]; exact hsteps⟩
theorem vx_callSX (X : Stand p l e R s m args below meth c T locs cells slots) (hexec : p.tables.exec = Jvm.exec) {own : String} {index : Nat} {y : MethodName} {bytes : ByteArray} {maxL : Nat} {ret : Option FieldType} {hh : List (Nat × Nat × Nat × Nat)}
    (hown : s.vm.findClass own = some m.cls) (hlink : (Cond.methodLink own index y).before args s = true) (hstat : (Cond.static y).before args s = true) (hinit : (Cond.initialized y.cls).before args s = true)
    (hcode : (Cond.codeWith y bytes maxL ret hh).before args s = true) (hy : y.cls ≠ "java/lang/invoke/MethodHandle" ∧ y.cls ≠ "java/lang/invoke/VarHandle")
    {W9 : Nat} {Pre : Pt → Array Value → Prop} {Post : Pt → Array Value → Option Value → Pt → Prop} {PostX : Pt → Array Value → Addr → Pt → Prop} (hK : vx_Back l R p e below s args y 3 W9 Pre Post PostX)
    {g : JFrame} (hg : g.method = m) (hsize : g.locals.size = c.maxLocals) {argsL rest : List Value} (hlen : ∀ sig, parseMethodDescriptor y.desc = some sig → argsL.length = sig.parameters.length)
    (hstack : g.stack = argsL.reverse ++ rest) (hW : 2 * g.monitorRoom + (rest.map fun v => v.category).sum ≤ W9) (hdg : decode c.code g.pc = .ok (.invokestatic index, 3))
    (hpre : ∀ vm₁, s.WarmedH vm₁ → Pre ⟨T.setVm vm₁, locs, cells, slots⟩ argsL.toArray) :
    (∃ (v : Option Value) (vm₁ : Vm) (B : Pt), s.WarmedH vm₁ ∧ Stand p l e R s m args below meth c B.U B.locs B.cells B.slots ∧ Post ⟨T.setVm vm₁, locs, cells, slots⟩ argsL.toArray v B ∧
      ∀ target, Steps p.tables e below (B.U.setTop { g with pc := g.pc + 3, stack := v.toList ++ rest }) target → Steps p.tables e below (T.setTop g) target) ∨
    (∃ (q : Addr) (vm₁ : Vm) (B : Pt), s.WarmedH vm₁ ∧ Stand p l e R s m args below meth c B.U B.locs B.cells B.slots ∧ PostX ⟨T.setVm vm₁, locs, cells, slots⟩ argsL.toArray q B ∧
      Steps p.tables e below (T.setTop g) ((B.U.setTop { g with stack := rest }).pushFrame (.throwing q))) := by
  obtain ⟨mk, methM, cM, hnamed, hmethM, -, -, -, -, -, -, hsigM⟩ := Cond.codeWith_spec hcode
  have hstatic : methM.isStatic = true := Cond.static_spec hnamed hmethM hstat
  obtain ⟨kP, hkP, -⟩ := className_of_methodNamed hnamed
  have hinitP : kP.init = .initialized := Cond.initialized_spec (findClass_of_methodNamed hnamed) hkP hinit
  obtain ⟨vm₁, X₁, hstep₁⟩ := X.invokestatic hexec hown hlink hnamed hmethM hstatic hkP hinitP hy (g := g) hg (argsL := argsL) (rest := rest) (hlen _ hsigM) hstack hdg
  rcases hK m meth c ⟨T.setVm vm₁, locs, cells, slots⟩ { g with stack := rest } (.invokestatic index) mk argsL.toArray X₁ hg hsize hdg hW (X₁.named hnamed) (hpre vm₁ X₁.warmed) with ⟨v, B, X', hpost, hsteps⟩ | ⟨q, B, X', hpost, hsteps⟩
  · exact Or.inl ⟨v, vm₁, B, X₁.warmed, X', hpost, fun target h => hstep₁ _ fun acts => by rw [doInvoke_state]; exact hsteps.trans h⟩
  · exact Or.inr ⟨q, vm₁, B, X₁.warmed, X', hpost, hstep₁ _ fun acts => by rw [doInvoke_state]; exact hsteps⟩
theorem vx_callVW (X : Stand p l e R s m args below meth c T locs cells slots) (hexec : p.tables.exec = Jvm.exec) {own C : String} {index : Nat} {y : MethodName} {bytes : ByteArray} {maxL : Nat} {ret : Option FieldType} {hh : List (Nat × Nat × Nat × Nat)}
    (hown : s.vm.findClass own = some m.cls) (hlink : (Cond.methodLink own index y).before args s = true) (hinst : (Cond.instanceMethod y).before args s = true) (hsel : (Cond.selects C y y).before args s = true)
    (hcode : (Cond.codeWith y bytes maxL ret hh).before args s = true) (hy : y.cls ≠ "java/lang/invoke/MethodHandle" ∧ y.cls ≠ "java/lang/invoke/VarHandle")
    {W9 : Nat} {Pre : Pt → Array Value → Prop} {Post : Pt → Array Value → Option Value → Pt → Prop} (hK : Back l R p e below s args y 3 W9 Pre Post)
    {b : Addr} {cellB : Cell} (hcell : T.heap[b]? = some cellB) (hobj : cellB.vm.isStatics = false) (hcls : s.vm.findClass C = some cellB.cls)
    {g : JFrame} (hg : g.method = m) (hsize : g.locals.size = c.maxLocals) {argsL rest : List Value} (hlen : ∀ sig, parseMethodDescriptor y.desc = some sig → argsL.length = sig.parameters.length)
    (hstack : g.stack = argsL.reverse ++ .ref b :: rest) (hW : 2 * g.monitorRoom + (rest.map fun v => v.category).sum ≤ W9) (hdg : decode c.code g.pc = .ok (.invokevirtual index, 3))
    (hpre : ∀ vm₁, s.WarmedH vm₁ → Pre ⟨T.setVm vm₁, locs, cells, slots⟩ (Value.ref b :: argsL).toArray) :
    ∃ (v : Option Value) (vm₁ : Vm) (B : Pt), s.WarmedH vm₁ ∧ Stand p l e R s m args below meth c B.U B.locs B.cells B.slots ∧ Post ⟨T.setVm vm₁, locs, cells, slots⟩ (Value.ref b :: argsL).toArray v B ∧
      ∀ target, Steps p.tables e below (B.U.setTop { g with pc := g.pc + 3, stack := v.toList ++ rest }) target → Steps p.tables e below (T.setTop g) target := by
  obtain ⟨mk, methM, hnamed, hmethM, hstM, habM⟩ := Cond.instanceMethod_spec hinst
  obtain ⟨m8, methM', cM, hn8, hmethM', -, -, -, -, -, -, hsigM⟩ := Cond.codeWith_spec hcode
  cases Option.some.inj (hn8.symm.trans hnamed)
  cases hmethM.symm.trans hmethM'
  obtain ⟨c2, r2, m2, q1, q2, q3, q4, kP, hkP, hkPi⟩ := Cond.selects_spec hsel
  cases hcls.symm.trans q1
  cases (State.methodFound?_of_named hnamed hy).symm.trans q2
  cases hnamed.symm.trans q3
  have hselP : selectMethod e.platform s.vm cellB.cls mk = .method mk := by rw [Launch.admits_selectMethod X.admits]; exact q4
  obtain ⟨vm₁, X₁, hstep₁⟩ := X.invokevirtual hexec hown hlink hnamed hmethM hstM hkP hkPi hy (a := b) (cell := cellB) hcell
    (fun z h => by rw [h] at hobj; cases hobj) hselP hmethM habM hkP hkPi (g := g) hg (argsL := argsL) (rest := rest) (hlen _ hsigM) hstack hdg
  obtain ⟨v, B, X', hpost, hsteps⟩ := hK m meth c ⟨T.setVm vm₁, locs, cells, slots⟩ { g with stack := rest } (.invokevirtual index) mk (Value.ref b :: argsL).toArray X₁ hg hsize hdg hW (X₁.named hnamed) (hpre vm₁ X₁.warmed)
  exact ⟨v, vm₁, B, X₁.warmed, X', hpost, fun target h => hstep₁ _ fun acts => by rw [doInvoke_state]; exact hsteps.trans h⟩
abbrev vx_CVW (R : Room) (s : State) (args : Array Value) (own C : String) (index : Nat) (y : MethodName) (bytes : ByteArray) (maxL : Nat) (ret : Option FieldType) (hh : List (Nat × Nat × Nat × Nat)) (ws : List Cond) (rm : Room) (mc ms n : Nat) : Prop :=
  (rm.cells = mc ∧ rm.slots = ms ∧ rm.frames + 1 ≤ R.frames ∧ 8 + (maxL + 11) + rm.locals ≤ R.locals ∧ (∀ w ∈ ws, ∀ (a' : Array Value) (U : State), s.WarmedH U.vm → w.before a' U = true) ∧ Cond.codeWith y bytes maxL ret hh ∈ ws) ∧
  (Cond.codeWith y bytes maxL ret hh).before args s = true ∧ (Cond.initialized y.cls).before args s = true ∧ (y.cls ≠ "java/lang/invoke/MethodHandle" ∧ y.cls ≠ "java/lang/invoke/VarHandle") ∧
  (∀ sig, parseMethodDescriptor y.desc = some sig → n = sig.parameters.length) ∧ (Cond.methodLink own index y).before args s = true ∧ (Cond.instanceMethod y).before args s = true ∧ (Cond.selects C y y).before args s = true
theorem vx_cwVW {own C : String} {index maxL mc ms : Nat} {y : MethodName} {bytes : ByteArray} {ret : Option FieldType} {hh : List (Nat × Nat × Nat × Nat)} {Ts ws ws' : List Cond} {rm : Room} (n : Nat) (ht : ∀ w ∈ Ts, w.before args s = true) (hT : GoodIn Ts (wsV own index C y ws)) (hw : ws = Cond.codeWith y bytes maxL ret hh :: ws') (hrc : rm.cells = mc) (hrs : rm.slots = ms)
    (hd : y.cls = C ∧ y.cls ≠ "java/lang/invoke/MethodHandle" ∧ y.cls ≠ "java/lang/invoke/VarHandle" ∧ (parseMethodDescriptor y.desc).map (fun d => d.parameters.length) = some n) (hR : rm.frames + 1 ≤ R.frames ∧ 8 + (maxL + 11) + rm.locals ≤ R.locals) :
    vx_CVW R s args own C index y bytes maxL ret hh ws rm mc ms n := by
  obtain ⟨hC, hd⟩ := hd
  subst hC
  have ok : ∀ w ∈ wsV own index y.cls y ws, w.before args s = true := fun w h => ht w (hT w h).1
  have hG : GoodIn Ts ws := fun w h => hT w (by unfold wsV; exact List.mem_append_right _ h)
  have hc : Cond.codeWith y bytes maxL ret hh ∈ ws := by rw [hw]; exact List.mem_cons_self
  refine ⟨⟨hrc, hrs, hR.1, hR.2, pay_in ht hG, hc⟩, ht _ (hG _ hc).1, ok _ (by simp [wsV]), ⟨hd.1, hd.2.1⟩, fun sig h => ?_, ok _ (by simp [wsV]), ok _ (by simp [wsV]), ok _ (by simp [wsV])⟩
  have h2 := hd.2.2
  rw [h] at h2
  exact (Option.some.inj h2).symm
theorem vx_runVW {y : MethodName} {bytes cc : ByteArray} {maxL nL mc ms n index : Nat} {ret : Option FieldType} {hh : List (Nat × Nat × Nat × Nat)} {ws : List Cond} {rm : Room} {Pc : Array Value → State → Prop} {Qc : Array Value → State → Outcome → State → Prop} {free : Addr → Prop} {Ts : List Cond} {own C : String} {b : Addr} {As rest : List Value} {g : JFrame}
    (S : CallFix p m c cc nL s args Ts own) (hM : Met l y ws rm Pc Qc mc ms free) (cw : vx_CVW R s args own C index y bytes maxL ret hh ws rm mc ms n) (hp : PreV s H C b Pc As)
    (hg : g.method = m) (hn : As.length = n) (hsize : g.locals.size = nL) (hstack : g.stack = As.reverse ++ .ref b :: rest) (hW : 2 * g.monitorRoom + (rest.map fun v => v.category).sum ≤ 8) (hdg : decode cc g.pc = .ok (.invokevirtual index, 3)) (hf : cells + mc ≤ R.cells ∧ slots + ms ≤ R.slots) :
    va_Run p l e R s m args below meth c H locs cells slots mc ms g rest (Qc (Value.ref b :: As).toArray) free := by
  obtain ⟨⟨hrc, hrs, hfr, hlo, hws, hcw⟩, hcode, hini, hy, hlen, hl, hin, hse⟩ := cw
  have hK : Back l R p e below s args y 3 8 (PreOf R mc ms Pc) (PostOf Qc mc ms free) := va_backW (hh := hh) (bytes := bytes) (maxL := maxL) (ret := ret) hM hp.1 hrc hrs hfr hlo hws hcw (fun a' U hW => word_at hW (Or.inl (by first | rfl | simp [Cond.onTables, Cond.keeps, Cond.steady])) hini)
  obtain ⟨hx, hb, hml, ho, -⟩ := S
  obtain ⟨-, ⟨cellB, hcB, hoB, hclB⟩, hPc⟩ := hp
  intro T hT X
  obtain ⟨v, vm₁, ⟨U', l2, c2, s2⟩, hW₁, X', ⟨g', mk, t, L, e1, e2, hq, h1, hL, h2, h3⟩, st⟩ := vx_callVW X hx (C := C) (hh := hh) (bytes := bytes) (maxL := maxL) (ret := ret) ho hl hin hse hcode hy hK (by rw [hT]; exact hcB) hoB hclB hg (hsize.trans hml.symm) (argsL := As) (rest := rest) (fun sig h => hn.trans (hlen sig h)) hstack hW (by rw [hb]; exact hdg)
    (fun vm₁ hW₁ => ⟨hf.1, hf.2, hPc (T.setVm vm₁) hT hW₁⟩)
  dsimp only [Pt.U, Pt.locs, Pt.cells, Pt.slots] at X' e1 e2 h1 h2 h3 st
  subst h1; subst h2; subst h3
  exact ⟨v, (T.setVm vm₁).calling g' mk (Value.ref b :: As).toArray, t, U', L, hT, X', hL, e1, e2, hq, st⟩
section
variable {y : MethodName} {bytes cc : ByteArray} {maxL nL mc ms n index : Nat} {ret : Option FieldType} {ws : List Cond} {rm : Room} {Pc : Array Value → State → Prop} {Qc : Array Value → State → Outcome → State → Prop} {XC : String → State → State → Prop} {free : Addr → Prop} {Ts : List Cond} {own C : String} {b : Addr} {As rest : List Value} {g : JFrame}
theorem vx_runVX {hh : List (Nat × Nat × Nat × Nat)} (S : CallFix p m c cc nL s args Ts own) (hM : vx_Met l y ws rm Pc Qc XC mc ms free) (cw : vx_CVW R s args own C index y bytes maxL ret hh ws rm mc ms n) (hp : PreV s H C b Pc As)
    (hg : g.method = m) (hn : As.length = n) (hsize : g.locals.size = nL) (hstack : g.stack = As.reverse ++ .ref b :: rest) (hW : 2 * g.monitorRoom + (rest.map fun v => v.category).sum ≤ 8) (hdg : decode cc g.pc = .ok (.invokevirtual index, 3)) (hf : cells + mc ≤ R.cells ∧ slots + ms ≤ R.slots) :
    vx_Run p l e R s m args below meth c H locs cells slots mc ms g rest (Qc (Value.ref b :: As).toArray) XC free := by
  obtain ⟨⟨hrc, hrs, hfr, hlo, hws, hcw⟩, hcode, hini, hy, hlen, hl, hin, hse⟩ := cw
  have hK : vx_Back l R p e below s args y 3 8 (PreOf R mc ms Pc) (PostOf Qc mc ms free) (vx_Post XC mc ms free) := vx_backW (hh := hh) (bytes := bytes) (maxL := maxL) (ret := ret) hM hp.1 hrc hrs hfr hlo hws hcw (fun a' U hW => word_at hW (Or.inl (by first | rfl | simp [Cond.onTables, Cond.keeps, Cond.steady])) hini)
  obtain ⟨hx, hb, hml, ho, -⟩ := S
  obtain ⟨-, ⟨cellB, hcB, hoB, hclB⟩, hPc⟩ := hp
  intro T hT X
  rcases vx_callVX X hx (C := C) (hh := hh) (bytes := bytes) (maxL := maxL) (ret := ret) ho hl hin hse hcode hy hK (by rw [hT]; exact hcB) hoB hclB hg (hsize.trans hml.symm) (argsL := As) (rest := rest) (fun sig h => hn.trans (hlen sig h)) hstack hW (by rw [hb]; exact hdg)
    (fun vm₁ hW₁ => ⟨hf.1, hf.2, hPc (T.setVm vm₁) hT hW₁⟩) with ⟨v, vm₁, ⟨U', l2, c2, s2⟩, hW₁, X', ⟨g', mk, t, L, e1, e2, hq, h1, hL, h2, h3⟩, st⟩ | ⟨q, vm₁, ⟨U', l2, c2, s2⟩, hW₁, X', ⟨g', mk, t, L, E, ce, e1, e2, hq, hce, hcv, hcl, h1, hL, h2, h3⟩, st⟩
  · dsimp only [Pt.U, Pt.locs, Pt.cells, Pt.slots] at X' e1 e2 h1 h2 h3 st
    subst h1; subst h2; subst h3
    exact Or.inl ⟨v, (T.setVm vm₁).calling g' mk (Value.ref b :: As).toArray, t, U', L, hT, X', hL, e1, e2, hq, st⟩
  · dsimp only [Pt.U, Pt.locs, Pt.cells, Pt.slots] at X' e1 e2 h1 h2 h3 st hcl
    subst h1; subst h2; subst h3
    exact Or.inr ⟨q, (T.setVm vm₁).calling g' mk (Value.ref b :: As).toArray, t, U', L, E, ce, hT, X', hL, e1, e2, hq, hce, hcv, vx_cls hW₁ hcl, st⟩
theorem vx_runSX {hh : List (Nat × Nat × Nat × Nat)} (S : CallFix p m c cc nL s args Ts own) (hM : vx_Met l y ws rm Pc Qc XC mc ms free) (cw : vx_CSW R s args own index y bytes maxL ret hh ws rm mc ms n) (hp : PreS s H Pc As)
    (hg : g.method = m) (hn : As.length = n) (hsize : g.locals.size = nL) (hstack : g.stack = As.reverse ++ rest) (hW : 2 * g.monitorRoom + (rest.map fun v => v.category).sum ≤ 8) (hdg : decode cc g.pc = .ok (.invokestatic index, 3)) (hf : cells + mc ≤ R.cells ∧ slots + ms ≤ R.slots) :
    vx_Run p l e R s m args below meth c H locs cells slots mc ms g rest (Qc As.toArray) XC free := by
  obtain ⟨⟨hrc, hrs, hfr, hlo, hws, hcw⟩, hcode, hini, hy, hlen, hl, hstt⟩ := cw
  have hK : vx_Back l R p e below s args y 3 8 (PreOf R mc ms Pc) (PostOf Qc mc ms free) (vx_Post XC mc ms free) := vx_backW (hh := hh) (bytes := bytes) (maxL := maxL) (ret := ret) hM hp.1 hrc hrs hfr hlo hws hcw (fun a' U hW => word_at hW (Or.inl (by first | rfl | simp [Cond.onTables, Cond.keeps, Cond.steady])) hini)
  obtain ⟨hx, hb, hml, ho, -⟩ := S
  intro T hT X
  rcases vx_callSX X hx (hh := hh) (bytes := bytes) (maxL := maxL) (ret := ret) ho hl hstt hini hcode hy hK hg (hsize.trans hml.symm) (argsL := As) (rest := rest) (fun sig h => hn.trans (hlen sig h)) hstack hW (by rw [hb]; exact hdg)
    (fun vm₁ hW₁ => ⟨hf.1, hf.2, hp.2 (T.setVm vm₁) hT hW₁⟩) with ⟨v, vm₁, ⟨U', l2, c2, s2⟩, hW₁, X', ⟨g', mk, t, L, e1, e2, hq, h1, hL, h2, h3⟩, st⟩ | ⟨q, vm₁, ⟨U', l2, c2, s2⟩, hW₁, X', ⟨g', mk, t, L, E, ce, e1, e2, hq, hce, hcv, hcl, h1, hL, h2, h3⟩, st⟩
  · dsimp only [Pt.U, Pt.locs, Pt.cells, Pt.slots] at X' e1 e2 h1 h2 h3 st
    subst h1; subst h2; subst h3
    exact Or.inl ⟨v, (T.setVm vm₁).calling g' mk As.toArray, t, U', L, hT, X', hL, e1, e2, hq, st⟩
  · dsimp only [Pt.U, Pt.locs, Pt.cells, Pt.slots] at X' e1 e2 h1 h2 h3 st hcl
    subst h1; subst h2; subst h3
    exact Or.inr ⟨q, (T.setVm vm₁).calling g' mk As.toArray, t, U', L, E, ce, hT, X', hL, e1, e2, hq, hce, hcv, vx_cls hW₁ hcl, st⟩
end
end VXH
theorem vx_ofWH {l : Launch} {y : MethodName} {ws ws' : List Cond} {rm : Room} {Pc : Array Value → State → Prop} {Qc : Array Value → State → Outcome → State → Prop} {XC : String → State → State → Prop} {mc ms : Nat} {free : Addr → Prop} {cc : ByteArray} {maxL : Nat} {ret : Option FieldType} {hh : List (Nat × Nat × Nat × Nat)}
    (hy : plainName y.cls = true) (hw : ws = Cond.codeWith y cc maxL ret hh :: ws')
    (body : ∀ p e s m args below meth c s₁, BodyLoose p l y (headSpec ws rm) cc maxL ret e s m args below meth c s₁ → c.maxLocals = maxL → Pc args s →
      W p l e (headSpec ws rm).room s m args below meth c s.heap [] 0 0 (vx_MQ below Qc XC args s mc ms free) (entryFrame m args maxL)) : vx_Met l y ws rm Pc Qc XC mc ms free := by
  refine MetFree.of_bodyS (code := cc) (maxLocals := maxL) (ret := ret) hy ?_ ?_
  · intro args s m h hn
    obtain ⟨m9, meth, c, hn9, h1, h2, h3, h4, -, h5, h6, -⟩ := Cond.codeWith_spec (atoms_spec (ws := ws) h _ (by rw [hw]; exact List.mem_cons_self))
    cases hn.symm.trans hn9
    exact ⟨meth, c, h1, h2, h3, h4, h5, h6⟩
  · intro p e s m args below meth c s₁ B hml hP _
    have hh0 : s₁.heap = s.heap := by rw [B.state]; rfl
    obtain ⟨t, a1, o, b1, b2, b3⟩ := body p e s m args below meth c s₁ B hml hP s₁ hh0 (Stand.of_body B)
    exact ⟨t, o, a1, b1, b2, b3⟩
/-! ===== END ===== -/
end
section
/-! ===== BEGIN printed: names, fields, word lists, decode rows ===== -/
def RX0 : String := "WitchTrial$Book"
def TX0 : u_T := fun k => match k with
  | 0 => ("WitchTrial$Book", "pages", "[I", true)
  | _ => ("WitchTrial$Book", "truth", "I", false)
def tyX0 : Nat → FieldType := fun k => match k with
  | 0 => .array .int
  | _ => .int
abbrev wsX00 : List Cond := u_ws RX0 TX0 2
theorem nmX0 : ∀ a, a < 2 → ∀ b, b < 2 → a ≠ b → (TX0 a).2.1 ≠ (TX0 b).2.1 := by decide +kernel
theorem tyX0_ok : ∀ k, k < 2 → parseFieldDescriptor (TX0 k).2.2.1 = some (tyX0 k) := by decide +kernel
abbrev cX0_init : ByteArray := prog_2_method_1_code
def yX0_init : MethodName := ⟨RX0, "<init>", "()V"⟩
abbrev cX0_open : ByteArray := prog_2_method_2_code
def yX0_open : MethodName := ⟨RX0, "open", "(II)V"⟩
abbrev cX0_addWorlds : ByteArray := prog_2_method_3_code
def yX0_addWorlds : MethodName := ⟨RX0, "addWorlds", "(III)I"⟩
abbrev cX0_agreesWithClaim : ByteArray := prog_2_method_4_code
def yX0_agreesWithClaim : MethodName := ⟨RX0, "agreesWithClaim", "(IIIZ)Z"⟩
abbrev cX0_allowsClaim : ByteArray := prog_2_method_5_code
def yX0_allowsClaim : MethodName := ⟨RX0, "allowsClaim", "(IIZ)Z"⟩
abbrev cX0_keepClaim : ByteArray := prog_2_method_6_code
def yX0_keepClaim : MethodName := ⟨RX0, "keepClaim", "(IIZ)V"⟩
abbrev cX0_agrees : ByteArray := prog_2_method_7_code
def yX0_agrees : MethodName := ⟨RX0, "agrees", "(II)Z"⟩
abbrev cX0_count : ByteArray := prog_2_method_8_code
def yX0_count : MethodName := ⟨RX0, "count", "(I)I"⟩
abbrev cX0_countWithRole : ByteArray := prog_2_method_9_code
def yX0_countWithRole : MethodName := ⟨RX0, "countWithRole", "(III)I"⟩
abbrev cX0_witchesInAll : ByteArray := prog_2_method_10_code
def yX0_witchesInAll : MethodName := ⟨RX0, "witchesInAll", "(I)I"⟩
abbrev cX0_witchesInAny : ByteArray := prog_2_method_11_code
def yX0_witchesInAny : MethodName := ⟨RX0, "witchesInAny", "(I)I"⟩
abbrev cX0_countWitchSets : ByteArray := prog_2_method_12_code
def yX0_countWitchSets : MethodName := ⟨RX0, "countWitchSets", "(I)I"⟩
abbrev cX0_contains : ByteArray := prog_2_method_13_code
def yX0_contains : MethodName := ⟨RX0, "contains", "(II)Z"⟩
def RX1 : String := "WitchTrial"
def TX1 : u_T := fun k => match k with
  | 0 => ("WitchTrial", "book", "LWitchTrial$Book;", true)
  | 1 => ("WitchTrial", "voteOf", "[I", true)
  | 2 => ("WitchTrial", "phase", "I", false)
  | 3 => ("WitchTrial", "dayNumber", "I", false)
  | 4 => ("WitchTrial", "playerCount", "I", false)
  | 5 => ("WitchTrial", "witchSet", "I", false)
  | 6 => ("WitchTrial", "seerPlayer", "I", false)
  | 7 => ("WitchTrial", "guardPlayer", "I", false)
  | 8 => ("WitchTrial", "aliveSet", "I", false)
  | 9 => ("WitchTrial", "lookedAtSet", "I", false)
  | 10 => ("WitchTrial", "protectChoice", "I", false)
  | 11 => ("WitchTrial", "attackChoice", "I", false)
  | 12 => ("WitchTrial", "lookChoice", "I", false)
  | _ => ("WitchTrial", "protectedLastNight", "I", false)
def tyX1 : Nat → FieldType := fun k => match k with
  | 0 => .object "WitchTrial$Book"
  | 1 => .array .int
  | 2 => .int
  | 3 => .int
  | 4 => .int
  | 5 => .int
  | 6 => .int
  | 7 => .int
  | 8 => .int
  | 9 => .int
  | 10 => .int
  | 11 => .int
  | 12 => .int
  | _ => .int
abbrev wsX10 : List Cond := u_ws RX1 TX1 14
theorem nmX1 : ∀ a, a < 14 → ∀ b, b < 14 → a ≠ b → (TX1 a).2.1 ≠ (TX1 b).2.1 := by decide +kernel
theorem tyX1_ok : ∀ k, k < 14 → parseFieldDescriptor (TX1 k).2.2.1 = some (tyX1 k) := by decide +kernel
abbrev cX1_init : ByteArray := prog_1_method_1_code
def yX1_init : MethodName := ⟨RX1, "<init>", "()V"⟩
abbrev cX1_start : ByteArray := prog_1_method_2_code
def yX1_start : MethodName := ⟨RX1, "start", "(IIII)I"⟩
abbrev cX1_phase : ByteArray := prog_1_method_3_code
def yX1_phase : MethodName := ⟨RX1, "phase", "()I"⟩
abbrev cX1_claim : ByteArray := prog_1_method_4_code
def yX1_claim : MethodName := ⟨RX1, "claim", "(III)I"⟩
abbrev cX1_claimAmong : ByteArray := prog_1_method_5_code
def yX1_claimAmong : MethodName := ⟨RX1, "claimAmong", "(II)I"⟩
abbrev cX1_vote : ByteArray := prog_1_method_6_code
def yX1_vote : MethodName := ⟨RX1, "vote", "(II)I"⟩
abbrev cX1_closeVote : ByteArray := prog_1_method_7_code
def yX1_closeVote : MethodName := ⟨RX1, "closeVote", "()I"⟩
abbrev cX1_protect : ByteArray := prog_1_method_8_code
def yX1_protect : MethodName := ⟨RX1, "protect", "(I)I"⟩
abbrev cX1_attack : ByteArray := prog_1_method_9_code
def yX1_attack : MethodName := ⟨RX1, "attack", "(I)I"⟩
abbrev cX1_look : ByteArray := prog_1_method_10_code
def yX1_look : MethodName := ⟨RX1, "look", "(I)I"⟩
abbrev cX1_endNight : ByteArray := prog_1_method_11_code
def yX1_endNight : MethodName := ⟨RX1, "endNight", "()I"⟩
abbrev cX1_day : ByteArray := prog_1_method_12_code
def yX1_day : MethodName := ⟨RX1, "day", "()I"⟩
abbrev cX1_alive : ByteArray := prog_1_method_13_code
def yX1_alive : MethodName := ⟨RX1, "alive", "()I"⟩
abbrev cX1_votesFor : ByteArray := prog_1_method_14_code
def yX1_votesFor : MethodName := ⟨RX1, "votesFor", "(I)I"⟩
abbrev cX1_lookedAt : ByteArray := prog_1_method_15_code
def yX1_lookedAt : MethodName := ⟨RX1, "lookedAt", "()I"⟩
abbrev cX1_worlds : ByteArray := prog_1_method_16_code
def yX1_worlds : MethodName := ⟨RX1, "worlds", "(I)I"⟩
abbrev cX1_worldsWith : ByteArray := prog_1_method_17_code
def yX1_worldsWith : MethodName := ⟨RX1, "worldsWith", "(III)I"⟩
abbrev cX1_sureWitches : ByteArray := prog_1_method_18_code
def yX1_sureWitches : MethodName := ⟨RX1, "sureWitches", "(I)I"⟩
abbrev cX1_sureHonest : ByteArray := prog_1_method_19_code
def yX1_sureHonest : MethodName := ⟨RX1, "sureHonest", "(I)I"⟩
abbrev cX1_witchSets : ByteArray := prog_1_method_20_code
def yX1_witchSets : MethodName := ⟨RX1, "witchSets", "(I)I"⟩
abbrev cX1_suspect : ByteArray := prog_1_method_21_code
def yX1_suspect : MethodName := ⟨RX1, "suspect", "(I)I"⟩
abbrev cX1_bestLook : ByteArray := prog_1_method_22_code
def yX1_bestLook : MethodName := ⟨RX1, "bestLook", "()I"⟩
abbrev cX1_isPossible : ByteArray := prog_1_method_23_code
def yX1_isPossible : MethodName := ⟨RX1, "isPossible", "(IIII)Z"⟩
abbrev cX1_requireGame : ByteArray := prog_1_method_24_code
def yX1_requireGame : MethodName := ⟨RX1, "requireGame", "()V"⟩
abbrev cX1_requirePhase : ByteArray := prog_1_method_25_code
def yX1_requirePhase : MethodName := ⟨RX1, "requirePhase", "(I)V"⟩
abbrev cX1_requireToLive : ByteArray := prog_1_method_26_code
def yX1_requireToLive : MethodName := ⟨RX1, "requireToLive", "(I)V"⟩
abbrev cX1_requirePlayer : ByteArray := prog_1_method_27_code
def yX1_requirePlayer : MethodName := ⟨RX1, "requirePlayer", "(I)V"⟩
abbrev cX1_requireViewer : ByteArray := prog_1_method_28_code
def yX1_requireViewer : MethodName := ⟨RX1, "requireViewer", "(I)V"⟩
abbrev cX1_isDeal : ByteArray := prog_1_method_29_code
def yX1_isDeal : MethodName := ⟨RX1, "isDeal", "(IIII)Z"⟩
abbrev cX1_isHonestIn : ByteArray := prog_1_method_30_code
def yX1_isHonestIn : MethodName := ⟨RX1, "isHonestIn", "(III)Z"⟩
abbrev cX1_setOf : ByteArray := prog_1_method_31_code
def yX1_setOf : MethodName := ⟨RX1, "setOf", "(I)I"⟩
abbrev cX1_everyone : ByteArray := prog_1_method_32_code
def yX1_everyone : MethodName := ⟨RX1, "everyone", "(I)I"⟩
abbrev cX1_isAlive : ByteArray := prog_1_method_33_code
def yX1_isAlive : MethodName := ⟨RX1, "isAlive", "(I)Z"⟩
abbrev cX1_isWitch : ByteArray := prog_1_method_34_code
def yX1_isWitch : MethodName := ⟨RX1, "isWitch", "(I)Z"⟩
abbrev cX1_makeClaim : ByteArray := prog_1_method_35_code
def yX1_makeClaim : MethodName := ⟨RX1, "makeClaim", "(IIZ)I"⟩
abbrev cX1_countVotes : ByteArray := prog_1_method_36_code
def yX1_countVotes : MethodName := ⟨RX1, "countVotes", "(I)I"⟩
abbrev cX1_playerWithMostVotes : ByteArray := prog_1_method_37_code
def yX1_playerWithMostVotes : MethodName := ⟨RX1, "playerWithMostVotes", "()I"⟩
abbrev cX1_forgetVotes : ByteArray := prog_1_method_38_code
def yX1_forgetVotes : MethodName := ⟨RX1, "forgetVotes", "()V"⟩
abbrev cX1_forgetChoices : ByteArray := prog_1_method_39_code
def yX1_forgetChoices : MethodName := ⟨RX1, "forgetChoices", "()V"⟩
abbrev cX1_die : ByteArray := prog_1_method_40_code
def yX1_die : MethodName := ⟨RX1, "die", "(I)V"⟩
abbrev cX1_seerLooks : ByteArray := prog_1_method_41_code
def yX1_seerLooks : MethodName := ⟨RX1, "seerLooks", "()V"⟩
abbrev cX1_worldOf : ByteArray := prog_1_method_42_code
def yX1_worldOf : MethodName := ⟨RX1, "worldOf", "(III)I"⟩
abbrev cX1_witchesOf : ByteArray := prog_1_method_43_code
def yX1_witchesOf : MethodName := ⟨RX1, "witchesOf", "(I)I"⟩
abbrev cX1_roleBits : ByteArray := prog_1_method_44_code
def yX1_roleBits : MethodName := ⟨RX1, "roleBits", "(I)I"⟩
abbrev cX1_bitOfRole : ByteArray := prog_1_method_45_code
def yX1_bitOfRole : MethodName := ⟨RX1, "bitOfRole", "(II)I"⟩
abbrev cX1_claimedBits : ByteArray := prog_1_method_46_code
def yX1_claimedBits : MethodName := ⟨RX1, "claimedBits", "(II)I"⟩
abbrev cX1_knownBits : ByteArray := prog_1_method_47_code
def yX1_knownBits : MethodName := ⟨RX1, "knownBits", "(I)I"⟩
def RX2 : String := "WitchTrialModel"
def TX2 : u_T := fun k => match k with
  | 0 => ("WitchTrialModel", "thrown", "I", false)
  | 1 => ("WitchTrialModel", "phase", "I", false)
  | 2 => ("WitchTrialModel", "players", "I", false)
  | 3 => ("WitchTrialModel", "witches", "I", false)
  | 4 => ("WitchTrialModel", "seer", "I", false)
  | 5 => ("WitchTrialModel", "guard", "I", false)
  | 6 => ("WitchTrialModel", "isOpen", "[Z", true)
  | 7 => ("WitchTrialModel", "alive", "I", false)
  | 8 => ("WitchTrialModel", "day", "I", false)
  | 9 => ("WitchTrialModel", "looked", "I", false)
  | 10 => ("WitchTrialModel", "votes", "[I", true)
  | 11 => ("WitchTrialModel", "shielded", "I", false)
  | 12 => ("WitchTrialModel", "shieldedBefore", "I", false)
  | 13 => ("WitchTrialModel", "attacked", "I", false)
  | 14 => ("WitchTrialModel", "watched", "I", false)
  | _ => ("WitchTrialModel", "many", "[I", true)
def tyX2 : Nat → FieldType := fun k => match k with
  | 0 => .int
  | 1 => .int
  | 2 => .int
  | 3 => .int
  | 4 => .int
  | 5 => .int
  | 6 => .array .boolean
  | 7 => .int
  | 8 => .int
  | 9 => .int
  | 10 => .array .int
  | 11 => .int
  | 12 => .int
  | 13 => .int
  | 14 => .int
  | _ => .array .int
abbrev wsX20 : List Cond := u_ws RX2 TX2 16
theorem nmX2 : ∀ a, a < 16 → ∀ b, b < 16 → a ≠ b → (TX2 a).2.1 ≠ (TX2 b).2.1 := by decide +kernel
theorem tyX2_ok : ∀ k, k < 16 → parseFieldDescriptor (TX2 k).2.2.1 = some (tyX2 k) := by decide +kernel
abbrev cX2_init : ByteArray := prog_4_method_1_code
def yX2_init : MethodName := ⟨RX2, "<init>", "()V"⟩
abbrev cX2_thrown : ByteArray := prog_4_method_2_code
def yX2_thrown : MethodName := ⟨RX2, "thrown", "()I"⟩
abbrev cX2_in : ByteArray := prog_4_method_3_code
def yX2_in : MethodName := ⟨RX2, "in", "(III)Z"⟩
abbrev cX2_bits : ByteArray := prog_4_method_4_code
def yX2_bits : MethodName := ⟨RX2, "bits", "(I)I"⟩
abbrev cX2_has : ByteArray := prog_4_method_5_code
def yX2_has : MethodName := ⟨RX2, "has", "(II)Z"⟩
abbrev cX2_isPlayer : ByteArray := prog_4_method_6_code
def yX2_isPlayer : MethodName := ⟨RX2, "isPlayer", "(I)Z"⟩
abbrev cX2_isViewer : ByteArray := prog_4_method_7_code
def yX2_isViewer : MethodName := ⟨RX2, "isViewer", "(I)Z"⟩
abbrev cX2_isWorld : ByteArray := prog_4_method_8_code
def yX2_isWorld : MethodName := ⟨RX2, "isWorld", "(IIIII)Z"⟩
abbrev cX2_roleIn : ByteArray := prog_4_method_9_code
def yX2_roleIn : MethodName := ⟨RX2, "roleIn", "(II)I"⟩
abbrev cX2_truth : ByteArray := prog_4_method_10_code
def yX2_truth : MethodName := ⟨RX2, "truth", "()I"⟩
abbrev cX2_manyOpen : ByteArray := prog_4_method_11_code
def yX2_manyOpen : MethodName := ⟨RX2, "manyOpen", "()I"⟩
abbrev cX2_isFor : ByteArray := prog_4_method_12_code
def yX2_isFor : MethodName := ⟨RX2, "isFor", "(II)Z"⟩
abbrev cX2_start : ByteArray := prog_4_method_13_code
def yX2_start : MethodName := ⟨RX2, "start", "(IIII)I"⟩
abbrev cX2_forgets : ByteArray := prog_4_method_14_code
def yX2_forgets : MethodName := ⟨RX2, "forgets", "()V"⟩
abbrev cX2_phase : ByteArray := prog_4_method_15_code
def yX2_phase : MethodName := ⟨RX2, "phase", "()I"⟩
abbrev cX2_isTrue : ByteArray := prog_4_method_16_code
def yX2_isTrue : MethodName := ⟨RX2, "isTrue", "(III)Z"⟩
abbrev cX2_may : ByteArray := prog_4_method_17_code
def yX2_may : MethodName := ⟨RX2, "may", "(IZ)Z"⟩
abbrev cX2_claim : ByteArray := prog_4_method_18_code
def yX2_claim : MethodName := ⟨RX2, "claim", "(III)I"⟩
abbrev cX2_claimAmong : ByteArray := prog_4_method_19_code
def yX2_claimAmong : MethodName := ⟨RX2, "claimAmong", "(II)I"⟩
abbrev cX2_manyVotes : ByteArray := prog_4_method_20_code
def yX2_manyVotes : MethodName := ⟨RX2, "manyVotes", "(I)I"⟩
abbrev cX2_vote : ByteArray := prog_4_method_21_code
def yX2_vote : MethodName := ⟨RX2, "vote", "(II)I"⟩
abbrev cX2_dies : ByteArray := prog_4_method_22_code
def yX2_dies : MethodName := ⟨RX2, "dies", "(I)V"⟩
abbrev cX2_closeVote : ByteArray := prog_4_method_23_code
def yX2_closeVote : MethodName := ⟨RX2, "closeVote", "()I"⟩
abbrev cX2_protect : ByteArray := prog_4_method_24_code
def yX2_protect : MethodName := ⟨RX2, "protect", "(I)I"⟩
abbrev cX2_attack : ByteArray := prog_4_method_25_code
def yX2_attack : MethodName := ⟨RX2, "attack", "(I)I"⟩
abbrev cX2_look : ByteArray := prog_4_method_26_code
def yX2_look : MethodName := ⟨RX2, "look", "(I)I"⟩
abbrev cX2_endNight : ByteArray := prog_4_method_27_code
def yX2_endNight : MethodName := ⟨RX2, "endNight", "()I"⟩
abbrev cX2_isGame : ByteArray := prog_4_method_28_code
def yX2_isGame : MethodName := ⟨RX2, "isGame", "()Z"⟩
abbrev cX2_day : ByteArray := prog_4_method_29_code
def yX2_day : MethodName := ⟨RX2, "day", "()I"⟩
abbrev cX2_alive : ByteArray := prog_4_method_30_code
def yX2_alive : MethodName := ⟨RX2, "alive", "()I"⟩
abbrev cX2_votesFor : ByteArray := prog_4_method_31_code
def yX2_votesFor : MethodName := ⟨RX2, "votesFor", "(I)I"⟩
abbrev cX2_lookedAt : ByteArray := prog_4_method_32_code
def yX2_lookedAt : MethodName := ⟨RX2, "lookedAt", "()I"⟩
abbrev cX2_asks : ByteArray := prog_4_method_33_code
def yX2_asks : MethodName := ⟨RX2, "asks", "(I)Z"⟩
abbrev cX2_manyFor : ByteArray := prog_4_method_34_code
def yX2_manyFor : MethodName := ⟨RX2, "manyFor", "(I)I"⟩
abbrev cX2_worlds : ByteArray := prog_4_method_35_code
def yX2_worlds : MethodName := ⟨RX2, "worlds", "(I)I"⟩
abbrev cX2_manyWith : ByteArray := prog_4_method_36_code
def yX2_manyWith : MethodName := ⟨RX2, "manyWith", "(III)I"⟩
abbrev cX2_worldsWith : ByteArray := prog_4_method_37_code
def yX2_worldsWith : MethodName := ⟨RX2, "worldsWith", "(III)I"⟩
abbrev cX2_inSome : ByteArray := prog_4_method_38_code
def yX2_inSome : MethodName := ⟨RX2, "inSome", "(IZ)I"⟩
abbrev cX2_sureWitches : ByteArray := prog_4_method_39_code
def yX2_sureWitches : MethodName := ⟨RX2, "sureWitches", "(I)I"⟩
abbrev cX2_sureHonest : ByteArray := prog_4_method_40_code
def yX2_sureHonest : MethodName := ⟨RX2, "sureHonest", "(I)I"⟩
abbrev cX2_witchSets : ByteArray := prog_4_method_41_code
def yX2_witchSets : MethodName := ⟨RX2, "witchSets", "(I)I"⟩
abbrev cX2_laysWitches : ByteArray := prog_4_method_42_code
def yX2_laysWitches : MethodName := ⟨RX2, "laysWitches", "(I)V"⟩
abbrev cX2_suspect : ByteArray := prog_4_method_43_code
def yX2_suspect : MethodName := ⟨RX2, "suspect", "(I)I"⟩
abbrev cX2_bestLook : ByteArray := prog_4_method_44_code
def yX2_bestLook : MethodName := ⟨RX2, "bestLook", "()I"⟩
abbrev cX2_isPossible : ByteArray := prog_4_method_45_code
def yX2_isPossible : MethodName := ⟨RX2, "isPossible", "(IIII)Z"⟩
def RJx145de : String := "java/io/Serializable"
def TJx145de : u_T := fun k => match k with
  | _ => ("", "", "", false)
def tyJx145de : Nat → FieldType := fun k => match k with
  | _ => .int
abbrev wsJx145de0 : List Cond := u_ws RJx145de TJx145de 0
theorem nmJx145de : ∀ a, a < 0 → ∀ b, b < 0 → a ≠ b → (TJx145de a).2.1 ≠ (TJx145de b).2.1 := by decide +kernel
theorem tyJx145de_ok : ∀ k, k < 0 → parseFieldDescriptor (TJx145de k).2.2.1 = some (tyJx145de k) := by decide +kernel
def RJ6 : String := "java/lang/Integer"
def TJ6 : u_T := fun k => match k with
  | _ => ("", "", "", false)
def tyJ6 : Nat → FieldType := fun k => match k with
  | _ => .int
abbrev wsJ60 : List Cond := u_ws RJ6 TJ6 0
theorem nmJ6 : ∀ a, a < 0 → ∀ b, b < 0 → a ≠ b → (TJ6 a).2.1 ≠ (TJ6 b).2.1 := by decide +kernel
theorem tyJ6_ok : ∀ k, k < 0 → parseFieldDescriptor (TJ6 k).2.2.1 = some (tyJ6 k) := by decide +kernel
abbrev cJ6_bitCount_0f7a4 : ByteArray := prog_10_method_49_code
def yJ6_bitCount_0f7a4 : MethodName := ⟨RJ6, "bitCount", "(I)I"⟩
def RJ9 : String := "java/lang/Math"
def TJ9 : u_T := fun k => match k with
  | _ => ("", "", "", false)
def tyJ9 : Nat → FieldType := fun k => match k with
  | _ => .int
abbrev wsJ90 : List Cond := u_ws RJ9 TJ9 0
theorem nmJ9 : ∀ a, a < 0 → ∀ b, b < 0 → a ≠ b → (TJ9 a).2.1 ≠ (TJ9 b).2.1 := by decide +kernel
theorem tyJ9_ok : ∀ k, k < 0 → parseFieldDescriptor (TJ9 k).2.2.1 = some (tyJ9 k) := by decide +kernel
abbrev cJ9_max_7cf53 : ByteArray := prog_11_method_65_code
def yJ9_max_7cf53 : MethodName := ⟨RJ9, "max", "(II)I"⟩
def RJ0 : String := "java/lang/String"
def TJ0 : u_T := fun k => match k with
  | _ => ("", "", "", false)
def tyJ0 : Nat → FieldType := fun k => match k with
  | _ => .int
abbrev wsJ00 : List Cond := u_ws RJ0 TJ0 0
theorem nmJ0 : ∀ a, a < 0 → ∀ b, b < 0 → a ≠ b → (TJ0 a).2.1 ≠ (TJ0 b).2.1 := by decide +kernel
theorem tyJ0_ok : ∀ k, k < 0 → parseFieldDescriptor (TJ0 k).2.2.1 = some (tyJ0 k) := by decide +kernel
def RJ7 : String := "java/util/Arrays"
def TJ7 : u_T := fun k => match k with
  | _ => ("", "", "", false)
def tyJ7 : Nat → FieldType := fun k => match k with
  | _ => .int
abbrev wsJ70 : List Cond := u_ws RJ7 TJ7 0
theorem nmJ7 : ∀ a, a < 0 → ∀ b, b < 0 → a ≠ b → (TJ7 a).2.1 ≠ (TJ7 b).2.1 := by decide +kernel
theorem tyJ7_ok : ∀ k, k < 0 → parseFieldDescriptor (TJ7 k).2.2.1 = some (tyJ7 k) := by decide +kernel
abbrev cJ7_fill_53178 : ByteArray := prog_15_method_103_code
def yJ7_fill_53178 : MethodName := ⟨RJ7, "fill", "([II)V"⟩
def RL : String := "WitchTrialLaw"
abbrev cL_start : ByteArray := method_3_code
def yL_start : MethodName := ⟨RL, "start", "(LWitchTrial;IIII[J)I"⟩
abbrev cL_claim : ByteArray := method_4_code
def yL_claim : MethodName := ⟨RL, "claim", "(LWitchTrial;III[J)I"⟩
abbrev cL_claimAmong : ByteArray := method_5_code
def yL_claimAmong : MethodName := ⟨RL, "claimAmong", "(LWitchTrial;II[J)I"⟩
abbrev cL_vote : ByteArray := method_6_code
def yL_vote : MethodName := ⟨RL, "vote", "(LWitchTrial;II[J)I"⟩
abbrev cL_closeVote : ByteArray := method_7_code
def yL_closeVote : MethodName := ⟨RL, "closeVote", "(LWitchTrial;[J)I"⟩
abbrev cL_protect : ByteArray := method_8_code
def yL_protect : MethodName := ⟨RL, "protect", "(LWitchTrial;I[J)I"⟩
abbrev cL_attack : ByteArray := method_9_code
def yL_attack : MethodName := ⟨RL, "attack", "(LWitchTrial;I[J)I"⟩
abbrev cL_look : ByteArray := method_10_code
def yL_look : MethodName := ⟨RL, "look", "(LWitchTrial;I[J)I"⟩
abbrev cL_endNight : ByteArray := method_11_code
def yL_endNight : MethodName := ⟨RL, "endNight", "(LWitchTrial;[J)I"⟩
abbrev cL_day : ByteArray := method_12_code
def yL_day : MethodName := ⟨RL, "day", "(LWitchTrial;[J)I"⟩
abbrev cL_alive : ByteArray := method_13_code
def yL_alive : MethodName := ⟨RL, "alive", "(LWitchTrial;[J)I"⟩
abbrev cL_votesFor : ByteArray := method_14_code
def yL_votesFor : MethodName := ⟨RL, "votesFor", "(LWitchTrial;I[J)I"⟩
abbrev cL_lookedAt : ByteArray := method_15_code
def yL_lookedAt : MethodName := ⟨RL, "lookedAt", "(LWitchTrial;[J)I"⟩
abbrev cL_worlds : ByteArray := method_16_code
def yL_worlds : MethodName := ⟨RL, "worlds", "(LWitchTrial;I[J)I"⟩
abbrev cL_worldsWith : ByteArray := method_17_code
def yL_worldsWith : MethodName := ⟨RL, "worldsWith", "(LWitchTrial;III[J)I"⟩
abbrev cL_sureWitches : ByteArray := method_18_code
def yL_sureWitches : MethodName := ⟨RL, "sureWitches", "(LWitchTrial;I[J)I"⟩
abbrev cL_sureHonest : ByteArray := method_19_code
def yL_sureHonest : MethodName := ⟨RL, "sureHonest", "(LWitchTrial;I[J)I"⟩
abbrev cL_witchSets : ByteArray := method_20_code
def yL_witchSets : MethodName := ⟨RL, "witchSets", "(LWitchTrial;I[J)I"⟩
abbrev cL_suspect : ByteArray := method_21_code
def yL_suspect : MethodName := ⟨RL, "suspect", "(LWitchTrial;I[J)I"⟩
abbrev cL_bestLook : ByteArray := method_22_code
def yL_bestLook : MethodName := ⟨RL, "bestLook", "(LWitchTrial;[J)I"⟩
abbrev cL_isPossible : ByteArray := method_23_code
def yL_isPossible : MethodName := ⟨RL, "isPossible", "(LWitchTrial;IIII[J)I"⟩
abbrev cL_law : ByteArray := code
def yL_law : MethodName := ⟨RL, "law", "([I)Z"⟩
def wsX0_init : List Cond := .code yX0_init cX0_init 1 none :: ([.methodLink RX0 3 objectInit, .instanceMethod objectInit, .code objectInit ⟨#[0xb1]⟩ 1 none, .arrayClass .int, .fieldLink RX0 11 "WitchTrial$Book" "pages" "[I"] ++ wsX00)
def wsJ7_fill_53178 : List Cond := .code yJ7_fill_53178 cJ7_fill_53178 4 none :: ([])
def wsX1_witchesOf : List Cond := .code yX1_witchesOf cX1_witchesOf 1 (some .int) :: ([])
def wsJ6_bitCount_0f7a4 : List Cond := .code yJ6_bitCount_0f7a4 cJ6_bitCount_0f7a4 1 (some .int) :: ([.constant RJ6 265 (1431655765), .constant RJ6 266 (858993459), .constant RJ6 267 (252645135)])
def wsX1_everyone : List Cond := .code yX1_everyone cX1_everyone 1 (some .int) :: ([])
def wsX1_setOf : List Cond := .code yX1_setOf cX1_setOf 1 (some .int) :: ([])
def wsX1_isHonestIn : List Cond := .code yX1_isHonestIn cX1_isHonestIn 3 (some .boolean) :: ([.methodLink RX1 194 yX1_setOf, .static yX1_setOf, .initialized RX1, .code yX1_setOf cX1_setOf 1 (some .int)])
def wsX1_worldOf : List Cond := .code yX1_worldOf cX1_worldOf 3 (some .int) :: ([.methodLink RX1 194 yX1_setOf, .static yX1_setOf, .initialized RX1, .code yX1_setOf cX1_setOf 1 (some .int)])
def wsX0_addWorlds : List Cond := .code yX0_addWorlds cX0_addWorlds 8 (some .int) :: ([.fieldLink RX0 11 "WitchTrial$Book" "pages" "[I", .static yX1_isHonestIn, .initialized RX1, .code yX1_isHonestIn cX1_isHonestIn 3 (some .boolean), .methodLink RX1 194 yX1_setOf, .static yX1_setOf, .code yX1_setOf cX1_setOf 1 (some .int), .static yX1_worldOf, .code yX1_worldOf cX1_worldOf 3 (some .int)] ++ wsX00)
def wsX0_open_r1 : List Cond := [Cond.fieldLink RX0 15 "WitchTrial$Book" "truth" "I", Cond.fieldLink RX0 11 "WitchTrial$Book" "pages" "[I", Cond.methodLink RX0 19 yJ7_fill_53178, Cond.static yJ7_fill_53178, Cond.initialized RJ7, Cond.code yJ7_fill_53178 cJ7_fill_53178 4 none, Cond.static yX1_witchesOf, Cond.initialized RX1, Cond.code yX1_witchesOf cX1_witchesOf 1 (some .int), Cond.methodLink RX0 29 yJ6_bitCount_0f7a4, Cond.static yJ6_bitCount_0f7a4, Cond.initialized RJ6, Cond.code yJ6_bitCount_0f7a4 cJ6_bitCount_0f7a4 1 (some .int), Cond.constant RJ6 265 (1431655765), Cond.constant RJ6 266 (858993459), Cond.constant RJ6 267 (252645135), Cond.static yX1_everyone, Cond.code yX1_everyone cX1_everyone 1 (some .int), Cond.methodLink RX0 37 yX0_addWorlds, Cond.instanceMethod yX0_addWorlds, Cond.selects RX0 yX0_addWorlds yX0_addWorlds, Cond.initialized RX0, Cond.code yX0_addWorlds cX0_addWorlds 8 (some .int), Cond.static yX1_isHonestIn]
def wsX0_open_r2 : List Cond := [Cond.code yX1_isHonestIn cX1_isHonestIn 3 (some .boolean), Cond.methodLink RX1 194 yX1_setOf, Cond.static yX1_setOf, Cond.code yX1_setOf cX1_setOf 1 (some .int), Cond.static yX1_worldOf, Cond.code yX1_worldOf cX1_worldOf 3 (some .int)]
def wsX0_open : List Cond := .code yX0_open cX0_open 6 none :: ((wsX0_open_r1 ++ wsX0_open_r2) ++ wsX00)
def wsX0_agreesWithClaim : List Cond := .code yX0_agreesWithClaim cX0_agreesWithClaim 4 (some .boolean) :: ([.static yX1_setOf, .initialized RX1, .code yX1_setOf cX1_setOf 1 (some .int)])
def wsX0_allowsClaim : List Cond := .code yX0_allowsClaim cX0_allowsClaim 4 (some .boolean) :: ([.fieldLink RX0 15 "WitchTrial$Book" "truth" "I", .methodLink RX0 51 yX0_agreesWithClaim, .static yX0_agreesWithClaim, .initialized RX0, .code yX0_agreesWithClaim cX0_agreesWithClaim 4 (some .boolean), .static yX1_setOf, .initialized RX1, .code yX1_setOf cX1_setOf 1 (some .int)] ++ wsX00)
def wsX0_keepClaim : List Cond := .code yX0_keepClaim cX0_keepClaim 7 none :: ([.fieldLink RX0 11 "WitchTrial$Book" "pages" "[I", .methodLink RX0 51 yX0_agreesWithClaim, .static yX0_agreesWithClaim, .initialized RX0, .code yX0_agreesWithClaim cX0_agreesWithClaim 4 (some .boolean), .static yX1_setOf, .initialized RX1, .code yX1_setOf cX1_setOf 1 (some .int)] ++ wsX00)
def wsX0_agrees : List Cond := .code yX0_agrees cX0_agrees 3 (some .boolean) :: ([.fieldLink RX0 15 "WitchTrial$Book" "truth" "I"] ++ wsX00)
def wsX0_count : List Cond := .code yX0_count cX0_count 4 (some .int) :: ([.fieldLink RX0 11 "WitchTrial$Book" "pages" "[I", .methodLink RX0 55 yX0_agrees, .instanceMethod yX0_agrees, .selects RX0 yX0_agrees yX0_agrees, .initialized RX0, .code yX0_agrees cX0_agrees 3 (some .boolean), .fieldLink RX0 15 "WitchTrial$Book" "truth" "I"] ++ wsX00)
def wsX1_roleBits : List Cond := .code yX1_roleBits cX1_roleBits 1 (some .int) :: ([])
def wsX1_bitOfRole : List Cond := .code yX1_bitOfRole cX1_bitOfRole 2 (some .int) :: ([.methodLink RX1 194 yX1_setOf, .static yX1_setOf, .initialized RX1, .code yX1_setOf cX1_setOf 1 (some .int)])
def wsX0_countWithRole : List Cond := .code yX0_countWithRole cX0_countWithRole 8 (some .int) :: ([.fieldLink RX0 11 "WitchTrial$Book" "pages" "[I", .static yX1_setOf, .initialized RX1, .code yX1_setOf cX1_setOf 1 (some .int), .static yX1_roleBits, .code yX1_roleBits cX1_roleBits 1 (some .int), .static yX1_bitOfRole, .code yX1_bitOfRole cX1_bitOfRole 2 (some .int), .methodLink RX1 194 yX1_setOf, .methodLink RX0 55 yX0_agrees, .instanceMethod yX0_agrees, .selects RX0 yX0_agrees yX0_agrees, .initialized RX0, .code yX0_agrees cX0_agrees 3 (some .boolean), .fieldLink RX0 15 "WitchTrial$Book" "truth" "I"] ++ wsX00)
def wsX0_witchesInAll : List Cond := .code yX0_witchesInAll cX0_witchesInAll 4 (some .int) :: ([.fieldLink RX0 11 "WitchTrial$Book" "pages" "[I", .methodLink RX0 55 yX0_agrees, .instanceMethod yX0_agrees, .selects RX0 yX0_agrees yX0_agrees, .initialized RX0, .code yX0_agrees cX0_agrees 3 (some .boolean), .fieldLink RX0 15 "WitchTrial$Book" "truth" "I", .static yX1_witchesOf, .initialized RX1, .code yX1_witchesOf cX1_witchesOf 1 (some .int)] ++ wsX00)
def wsX0_witchesInAny : List Cond := .code yX0_witchesInAny cX0_witchesInAny 4 (some .int) :: ([.fieldLink RX0 11 "WitchTrial$Book" "pages" "[I", .methodLink RX0 55 yX0_agrees, .instanceMethod yX0_agrees, .selects RX0 yX0_agrees yX0_agrees, .initialized RX0, .code yX0_agrees cX0_agrees 3 (some .boolean), .fieldLink RX0 15 "WitchTrial$Book" "truth" "I", .static yX1_witchesOf, .initialized RX1, .code yX1_witchesOf cX1_witchesOf 1 (some .int)] ++ wsX00)
def wsX0_countWitchSets : List Cond := .code yX0_countWitchSets cX0_countWitchSets 5 (some .int) :: ([.fieldLink RX0 11 "WitchTrial$Book" "pages" "[I", .methodLink RX0 55 yX0_agrees, .instanceMethod yX0_agrees, .selects RX0 yX0_agrees yX0_agrees, .initialized RX0, .code yX0_agrees cX0_agrees 3 (some .boolean), .fieldLink RX0 15 "WitchTrial$Book" "truth" "I", .static yX1_witchesOf, .initialized RX1, .code yX1_witchesOf cX1_witchesOf 1 (some .int)] ++ wsX00)
def wsX0_contains : List Cond := .code yX0_contains cX0_contains 4 (some .boolean) :: ([.fieldLink RX0 11 "WitchTrial$Book" "pages" "[I", .methodLink RX0 55 yX0_agrees, .instanceMethod yX0_agrees, .selects RX0 yX0_agrees yX0_agrees, .initialized RX0, .code yX0_agrees cX0_agrees 3 (some .boolean), .fieldLink RX0 15 "WitchTrial$Book" "truth" "I"] ++ wsX00)
def wsX1_init : List Cond := .code yX1_init cX1_init 1 none :: ([.methodLink RX1 3 objectInit, .instanceMethod objectInit, .code objectInit ⟨#[0xb1]⟩ 1 none, .classLink RX1 9 RX0, .instantiable RX0 2, .initialized RX0, .fieldLink RX1 12 "WitchTrial" "book" "LWitchTrial$Book;", .arrayClass .int, .fieldLink RX1 16 "WitchTrial" "voteOf" "[I", .fieldLink RX1 20 "WitchTrial" "phase" "I", .fieldLink RX1 24 "WitchTrial" "protectChoice" "I", .fieldLink RX1 27 "WitchTrial" "attackChoice" "I", .fieldLink RX1 30 "WitchTrial" "lookChoice" "I", .fieldLink RX1 33 "WitchTrial" "protectedLastNight" "I", .instanceMethod yX0_init, .code yX0_init cX0_init 1 none, .methodLink RX0 3 objectInit, .fieldLink RX0 11 "WitchTrial$Book" "pages" "[I"] ++ wsX00 ++ wsX10)
def wsX1_isDeal : List Cond := .code yX1_isDeal cX1_isDeal 4 (some .boolean) :: ([.methodLink RX1 59 yX1_everyone, .static yX1_everyone, .initialized RX1, .code yX1_everyone cX1_everyone 1 (some .int), .methodLink RX1 185 yJ6_bitCount_0f7a4, .static yJ6_bitCount_0f7a4, .initialized RJ6, .code yJ6_bitCount_0f7a4 cJ6_bitCount_0f7a4 1 (some .int), .constant RJ6 265 (1431655765), .constant RJ6 266 (858993459), .constant RJ6 267 (252645135), .methodLink RX1 190 yX1_isHonestIn, .static yX1_isHonestIn, .code yX1_isHonestIn cX1_isHonestIn 3 (some .boolean), .methodLink RX1 194 yX1_setOf, .static yX1_setOf, .code yX1_setOf cX1_setOf 1 (some .int)])
def wsX1_forgetVotes : List Cond := .code yX1_forgetVotes cX1_forgetVotes 1 none :: ([.fieldLink RX1 16 "WitchTrial" "voteOf" "[I", .methodLink RX1 210 yJ7_fill_53178, .static yJ7_fill_53178, .initialized RJ7, .code yJ7_fill_53178 cJ7_fill_53178 4 none] ++ wsX10)
def wsX1_forgetChoices : List Cond := .code yX1_forgetChoices cX1_forgetChoices 1 none :: ([.fieldLink RX1 24 "WitchTrial" "protectChoice" "I", .fieldLink RX1 27 "WitchTrial" "attackChoice" "I", .fieldLink RX1 30 "WitchTrial" "lookChoice" "I"] ++ wsX10)
def wsX1_isWitch : List Cond := .code yX1_isWitch cX1_isWitch 2 (some .boolean) :: ([.fieldLink RX1 50 "WitchTrial" "witchSet" "I", .methodLink RX1 194 yX1_setOf, .static yX1_setOf, .initialized RX1, .code yX1_setOf cX1_setOf 1 (some .int)] ++ wsX10)
def wsX1_knownBits : List Cond := .code yX1_knownBits cX1_knownBits 3 (some .int) :: ([.fieldLink RX1 47 "WitchTrial" "playerCount" "I", .fieldLink RX1 63 "WitchTrial" "aliveSet" "I", .fieldLink RX1 53 "WitchTrial" "seerPlayer" "I", .fieldLink RX1 66 "WitchTrial" "lookedAtSet" "I", .methodLink RX1 59 yX1_everyone, .static yX1_everyone, .initialized RX1, .code yX1_everyone cX1_everyone 1 (some .int), .methodLink RX1 219 yX1_roleBits, .static yX1_roleBits, .code yX1_roleBits cX1_roleBits 1 (some .int), .methodLink RX1 194 yX1_setOf, .static yX1_setOf, .code yX1_setOf cX1_setOf 1 (some .int), .methodLink RX1 135 yX1_isWitch, .instanceMethod yX1_isWitch, .selects RX1 yX1_isWitch yX1_isWitch, .code yX1_isWitch cX1_isWitch 2 (some .boolean), .fieldLink RX1 50 "WitchTrial" "witchSet" "I"] ++ wsX10)
def wsX1_start_r1 : List Cond := [Cond.classLink RX1 40 "java/lang/IllegalArgumentException", Cond.initialized "java/lang/IllegalArgumentException", Cond.fieldLink RX1 47 "WitchTrial" "playerCount" "I", Cond.fieldLink RX1 50 "WitchTrial" "witchSet" "I", Cond.fieldLink RX1 53 "WitchTrial" "seerPlayer" "I", Cond.fieldLink RX1 56 "WitchTrial" "guardPlayer" "I", Cond.fieldLink RX1 63 "WitchTrial" "aliveSet" "I", Cond.fieldLink RX1 66 "WitchTrial" "lookedAtSet" "I", Cond.fieldLink RX1 69 "WitchTrial" "dayNumber" "I", Cond.fieldLink RX1 20 "WitchTrial" "phase" "I", Cond.fieldLink RX1 33 "WitchTrial" "protectedLastNight" "I", Cond.fieldLink RX1 12 "WitchTrial" "book" "LWitchTrial$Book;", Cond.methodLink RX1 36 yX1_isDeal, Cond.static yX1_isDeal, Cond.initialized RX1, Cond.code yX1_isDeal cX1_isDeal 4 (some .boolean), Cond.methodLink RX1 59 yX1_everyone, Cond.static yX1_everyone, Cond.code yX1_everyone cX1_everyone 1 (some .int), Cond.methodLink RX1 185 yJ6_bitCount_0f7a4, Cond.static yJ6_bitCount_0f7a4, Cond.initialized RJ6, Cond.code yJ6_bitCount_0f7a4 cJ6_bitCount_0f7a4 1 (some .int), Cond.constant RJ6 265 (1431655765)]
def wsX1_start_r2 : List Cond := [Cond.constant RJ6 266 (858993459), Cond.constant RJ6 267 (252645135), Cond.methodLink RX1 190 yX1_isHonestIn, Cond.static yX1_isHonestIn, Cond.code yX1_isHonestIn cX1_isHonestIn 3 (some .boolean), Cond.methodLink RX1 194 yX1_setOf, Cond.static yX1_setOf, Cond.code yX1_setOf cX1_setOf 1 (some .int), Cond.methodLink RX1 72 yX1_forgetVotes, Cond.instanceMethod yX1_forgetVotes, Cond.selects RX1 yX1_forgetVotes yX1_forgetVotes, Cond.code yX1_forgetVotes cX1_forgetVotes 1 none, Cond.fieldLink RX1 16 "WitchTrial" "voteOf" "[I", Cond.methodLink RX1 210 yJ7_fill_53178, Cond.static yJ7_fill_53178, Cond.initialized RJ7, Cond.code yJ7_fill_53178 cJ7_fill_53178 4 none, Cond.methodLink RX1 75 yX1_forgetChoices, Cond.instanceMethod yX1_forgetChoices, Cond.selects RX1 yX1_forgetChoices yX1_forgetChoices, Cond.code yX1_forgetChoices cX1_forgetChoices 1 none, Cond.fieldLink RX1 24 "WitchTrial" "protectChoice" "I", Cond.fieldLink RX1 27 "WitchTrial" "attackChoice" "I", Cond.fieldLink RX1 30 "WitchTrial" "lookChoice" "I"]
def wsX1_start_r3 : List Cond := [Cond.methodLink RX1 78 yX1_worldOf, Cond.static yX1_worldOf, Cond.code yX1_worldOf cX1_worldOf 3 (some .int), Cond.instanceMethod yX0_open, Cond.initialized RX0, Cond.selects RX0 yX0_open yX0_open, Cond.code yX0_open cX0_open 6 none, Cond.fieldLink RX0 15 "WitchTrial$Book" "truth" "I", Cond.fieldLink RX0 11 "WitchTrial$Book" "pages" "[I", Cond.methodLink RX0 19 yJ7_fill_53178, Cond.static yX1_witchesOf, Cond.code yX1_witchesOf cX1_witchesOf 1 (some .int), Cond.methodLink RX0 29 yJ6_bitCount_0f7a4, Cond.methodLink RX0 37 yX0_addWorlds, Cond.instanceMethod yX0_addWorlds, Cond.selects RX0 yX0_addWorlds yX0_addWorlds, Cond.code yX0_addWorlds cX0_addWorlds 8 (some .int), Cond.methodLink RX1 86 yX1_knownBits, Cond.instanceMethod yX1_knownBits, Cond.selects RX1 yX1_knownBits yX1_knownBits, Cond.code yX1_knownBits cX1_knownBits 3 (some .int), Cond.methodLink RX1 219 yX1_roleBits, Cond.static yX1_roleBits, Cond.code yX1_roleBits cX1_roleBits 1 (some .int)]
def wsX1_start_r4 : List Cond := [Cond.methodLink RX1 135 yX1_isWitch, Cond.instanceMethod yX1_isWitch, Cond.selects RX1 yX1_isWitch yX1_isWitch, Cond.code yX1_isWitch cX1_isWitch 2 (some .boolean), Cond.instanceMethod yX0_count, Cond.selects RX0 yX0_count yX0_count, Cond.code yX0_count cX0_count 4 (some .int), Cond.methodLink RX0 55 yX0_agrees, Cond.instanceMethod yX0_agrees, Cond.selects RX0 yX0_agrees yX0_agrees, Cond.code yX0_agrees cX0_agrees 3 (some .boolean)]
def wsX1_start : List Cond := .code yX1_start cX1_start 5 (some .int) :: ((wsX1_start_r1 ++ (wsX1_start_r2 ++ (wsX1_start_r3 ++ wsX1_start_r4))) ++ wsX10 ++ wsX00 ++ (vx_atS RX1 44 "java/lang/IllegalArgumentException" ["java/lang/RuntimeException", "java/lang/Exception"]).filter goodWord)
def wsX1_phase : List Cond := .code yX1_phase cX1_phase 1 (some .int) :: ([.fieldLink RX1 20 "WitchTrial" "phase" "I"] ++ wsX10)
def wsX1_requireGame : List Cond := .code yX1_requireGame cX1_requireGame 1 none :: ([.classLink RX1 171 "java/lang/IllegalStateException", .initialized "java/lang/IllegalStateException", .fieldLink RX1 20 "WitchTrial" "phase" "I"] ++ wsX10 ++ (vx_atS RX1 175 "java/lang/IllegalStateException" ["java/lang/RuntimeException", "java/lang/Exception"]).filter goodWord)
def wsX1_requirePlayer : List Cond := .code yX1_requirePlayer cX1_requirePlayer 2 none :: ([.classLink RX1 180 "java/lang/IndexOutOfBoundsException", .initialized "java/lang/IndexOutOfBoundsException", .fieldLink RX1 47 "WitchTrial" "playerCount" "I"] ++ wsX10 ++ (vx_atS RX1 184 "java/lang/IndexOutOfBoundsException" ["java/lang/RuntimeException", "java/lang/Exception"]).filter goodWord)
def wsX1_claimedBits : List Cond := .code yX1_claimedBits cX1_claimedBits 2 (some .int) :: ([.methodLink RX1 216 yX1_bitOfRole, .static yX1_bitOfRole, .initialized RX1, .code yX1_bitOfRole cX1_bitOfRole 2 (some .int), .methodLink RX1 194 yX1_setOf, .static yX1_setOf, .code yX1_setOf cX1_setOf 1 (some .int)])
def wsX1_isAlive : List Cond := .code yX1_isAlive cX1_isAlive 2 (some .boolean) :: ([.fieldLink RX1 63 "WitchTrial" "aliveSet" "I", .methodLink RX1 194 yX1_setOf, .static yX1_setOf, .initialized RX1, .code yX1_setOf cX1_setOf 1 (some .int)] ++ wsX10)
def wsX1_makeClaim_r1 : List Cond := [Cond.classLink RX1 201 "java/util/NoSuchElementException", Cond.initialized "java/util/NoSuchElementException", Cond.fieldLink RX1 20 "WitchTrial" "phase" "I", Cond.fieldLink RX1 12 "WitchTrial" "book" "LWitchTrial$Book;", Cond.methodLink RX1 114 yX1_isAlive, Cond.instanceMethod yX1_isAlive, Cond.selects RX1 yX1_isAlive yX1_isAlive, Cond.initialized RX1, Cond.code yX1_isAlive cX1_isAlive 2 (some .boolean), Cond.fieldLink RX1 63 "WitchTrial" "aliveSet" "I", Cond.methodLink RX1 194 yX1_setOf, Cond.static yX1_setOf, Cond.code yX1_setOf cX1_setOf 1 (some .int), Cond.instanceMethod yX0_allowsClaim, Cond.initialized RX0, Cond.selects RX0 yX0_allowsClaim yX0_allowsClaim, Cond.code yX0_allowsClaim cX0_allowsClaim 4 (some .boolean), Cond.fieldLink RX0 15 "WitchTrial$Book" "truth" "I", Cond.methodLink RX0 51 yX0_agreesWithClaim, Cond.static yX0_agreesWithClaim, Cond.code yX0_agreesWithClaim cX0_agreesWithClaim 4 (some .boolean), Cond.instanceMethod yX0_keepClaim, Cond.selects RX0 yX0_keepClaim yX0_keepClaim, Cond.code yX0_keepClaim cX0_keepClaim 7 none]
def wsX1_makeClaim_r2 : List Cond := [Cond.fieldLink RX0 11 "WitchTrial$Book" "pages" "[I", Cond.methodLink RX1 86 yX1_knownBits, Cond.instanceMethod yX1_knownBits, Cond.selects RX1 yX1_knownBits yX1_knownBits, Cond.code yX1_knownBits cX1_knownBits 3 (some .int), Cond.fieldLink RX1 47 "WitchTrial" "playerCount" "I", Cond.fieldLink RX1 53 "WitchTrial" "seerPlayer" "I", Cond.fieldLink RX1 66 "WitchTrial" "lookedAtSet" "I", Cond.methodLink RX1 59 yX1_everyone, Cond.static yX1_everyone, Cond.code yX1_everyone cX1_everyone 1 (some .int), Cond.methodLink RX1 219 yX1_roleBits, Cond.static yX1_roleBits, Cond.code yX1_roleBits cX1_roleBits 1 (some .int), Cond.methodLink RX1 135 yX1_isWitch, Cond.instanceMethod yX1_isWitch, Cond.selects RX1 yX1_isWitch yX1_isWitch, Cond.code yX1_isWitch cX1_isWitch 2 (some .boolean), Cond.fieldLink RX1 50 "WitchTrial" "witchSet" "I", Cond.instanceMethod yX0_count, Cond.selects RX0 yX0_count yX0_count, Cond.code yX0_count cX0_count 4 (some .int), Cond.methodLink RX0 55 yX0_agrees, Cond.instanceMethod yX0_agrees]
def wsX1_makeClaim_r3 : List Cond := [Cond.selects RX0 yX0_agrees yX0_agrees, Cond.code yX0_agrees cX0_agrees 3 (some .boolean)]
def wsX1_makeClaim : List Cond := .code yX1_makeClaim cX1_makeClaim 4 (some .int) :: ((wsX1_makeClaim_r1 ++ (wsX1_makeClaim_r2 ++ wsX1_makeClaim_r3)) ++ wsX10 ++ wsX00 ++ (vx_atS RX1 205 "java/util/NoSuchElementException" ["java/lang/RuntimeException", "java/lang/Exception"]).filter goodWord)
def wsX1_claim_r1 : List Cond := [Cond.classLink RX1 40 "java/lang/IllegalArgumentException", Cond.initialized "java/lang/IllegalArgumentException", Cond.methodLink RX1 92 yX1_requireGame, Cond.instanceMethod yX1_requireGame, Cond.selects RX1 yX1_requireGame yX1_requireGame, Cond.initialized RX1, Cond.code yX1_requireGame cX1_requireGame 1 none, Cond.classLink RX1 171 "java/lang/IllegalStateException", Cond.initialized "java/lang/IllegalStateException", Cond.fieldLink RX1 20 "WitchTrial" "phase" "I", Cond.methodLink RX1 95 yX1_requirePlayer, Cond.instanceMethod yX1_requirePlayer, Cond.selects RX1 yX1_requirePlayer yX1_requirePlayer, Cond.code yX1_requirePlayer cX1_requirePlayer 2 none, Cond.classLink RX1 180 "java/lang/IndexOutOfBoundsException", Cond.initialized "java/lang/IndexOutOfBoundsException", Cond.fieldLink RX1 47 "WitchTrial" "playerCount" "I", Cond.methodLink RX1 101 yX1_claimedBits, Cond.static yX1_claimedBits, Cond.code yX1_claimedBits cX1_claimedBits 2 (some .int), Cond.methodLink RX1 216 yX1_bitOfRole, Cond.static yX1_bitOfRole, Cond.code yX1_bitOfRole cX1_bitOfRole 2 (some .int), Cond.methodLink RX1 194 yX1_setOf]
def wsX1_claim_r2 : List Cond := [Cond.static yX1_setOf, Cond.code yX1_setOf cX1_setOf 1 (some .int), Cond.methodLink RX1 105 yX1_makeClaim, Cond.instanceMethod yX1_makeClaim, Cond.selects RX1 yX1_makeClaim yX1_makeClaim, Cond.code yX1_makeClaim cX1_makeClaim 4 (some .int), Cond.classLink RX1 201 "java/util/NoSuchElementException", Cond.initialized "java/util/NoSuchElementException", Cond.fieldLink RX1 12 "WitchTrial" "book" "LWitchTrial$Book;", Cond.methodLink RX1 114 yX1_isAlive, Cond.instanceMethod yX1_isAlive, Cond.selects RX1 yX1_isAlive yX1_isAlive, Cond.code yX1_isAlive cX1_isAlive 2 (some .boolean), Cond.fieldLink RX1 63 "WitchTrial" "aliveSet" "I", Cond.instanceMethod yX0_allowsClaim, Cond.initialized RX0, Cond.selects RX0 yX0_allowsClaim yX0_allowsClaim, Cond.code yX0_allowsClaim cX0_allowsClaim 4 (some .boolean), Cond.fieldLink RX0 15 "WitchTrial$Book" "truth" "I", Cond.methodLink RX0 51 yX0_agreesWithClaim, Cond.static yX0_agreesWithClaim, Cond.code yX0_agreesWithClaim cX0_agreesWithClaim 4 (some .boolean), Cond.instanceMethod yX0_keepClaim, Cond.selects RX0 yX0_keepClaim yX0_keepClaim]
def wsX1_claim_r3 : List Cond := [Cond.code yX0_keepClaim cX0_keepClaim 7 none, Cond.fieldLink RX0 11 "WitchTrial$Book" "pages" "[I", Cond.methodLink RX1 86 yX1_knownBits, Cond.instanceMethod yX1_knownBits, Cond.selects RX1 yX1_knownBits yX1_knownBits, Cond.code yX1_knownBits cX1_knownBits 3 (some .int), Cond.fieldLink RX1 53 "WitchTrial" "seerPlayer" "I", Cond.fieldLink RX1 66 "WitchTrial" "lookedAtSet" "I", Cond.methodLink RX1 59 yX1_everyone, Cond.static yX1_everyone, Cond.code yX1_everyone cX1_everyone 1 (some .int), Cond.methodLink RX1 219 yX1_roleBits, Cond.static yX1_roleBits, Cond.code yX1_roleBits cX1_roleBits 1 (some .int), Cond.methodLink RX1 135 yX1_isWitch, Cond.instanceMethod yX1_isWitch, Cond.selects RX1 yX1_isWitch yX1_isWitch, Cond.code yX1_isWitch cX1_isWitch 2 (some .boolean), Cond.fieldLink RX1 50 "WitchTrial" "witchSet" "I", Cond.instanceMethod yX0_count, Cond.selects RX0 yX0_count yX0_count, Cond.code yX0_count cX0_count 4 (some .int), Cond.methodLink RX0 55 yX0_agrees, Cond.instanceMethod yX0_agrees]
def wsX1_claim_r4 : List Cond := [Cond.selects RX0 yX0_agrees yX0_agrees, Cond.code yX0_agrees cX0_agrees 3 (some .boolean)]
def wsX1_claim : List Cond := .code yX1_claim cX1_claim 4 (some .int) :: ((wsX1_claim_r1 ++ (wsX1_claim_r2 ++ (wsX1_claim_r3 ++ wsX1_claim_r4))) ++ wsX10 ++ wsX00 ++ (vx_atS RX1 44 "java/lang/IllegalArgumentException" ["java/lang/RuntimeException", "java/lang/Exception"]).filter goodWord ++ (vx_atS RX1 175 "java/lang/IllegalStateException" ["java/lang/RuntimeException", "java/lang/Exception"]).filter goodWord ++ (vx_atS RX1 184 "java/lang/IndexOutOfBoundsException" ["java/lang/RuntimeException", "java/lang/Exception"]).filter goodWord ++ (vx_atS RX1 205 "java/util/NoSuchElementException" ["java/lang/RuntimeException", "java/lang/Exception"]).filter goodWord)
def wsX1_claimAmong_r1 : List Cond := [Cond.classLink RX1 40 "java/lang/IllegalArgumentException", Cond.initialized "java/lang/IllegalArgumentException", Cond.fieldLink RX1 47 "WitchTrial" "playerCount" "I", Cond.methodLink RX1 92 yX1_requireGame, Cond.instanceMethod yX1_requireGame, Cond.selects RX1 yX1_requireGame yX1_requireGame, Cond.initialized RX1, Cond.code yX1_requireGame cX1_requireGame 1 none, Cond.classLink RX1 171 "java/lang/IllegalStateException", Cond.initialized "java/lang/IllegalStateException", Cond.fieldLink RX1 20 "WitchTrial" "phase" "I", Cond.methodLink RX1 95 yX1_requirePlayer, Cond.instanceMethod yX1_requirePlayer, Cond.selects RX1 yX1_requirePlayer yX1_requirePlayer, Cond.code yX1_requirePlayer cX1_requirePlayer 2 none, Cond.classLink RX1 180 "java/lang/IndexOutOfBoundsException", Cond.initialized "java/lang/IndexOutOfBoundsException", Cond.methodLink RX1 59 yX1_everyone, Cond.static yX1_everyone, Cond.code yX1_everyone cX1_everyone 1 (some .int), Cond.methodLink RX1 105 yX1_makeClaim, Cond.instanceMethod yX1_makeClaim, Cond.selects RX1 yX1_makeClaim yX1_makeClaim, Cond.code yX1_makeClaim cX1_makeClaim 4 (some .int)]
def wsX1_claimAmong_r2 : List Cond := [Cond.classLink RX1 201 "java/util/NoSuchElementException", Cond.initialized "java/util/NoSuchElementException", Cond.fieldLink RX1 12 "WitchTrial" "book" "LWitchTrial$Book;", Cond.methodLink RX1 114 yX1_isAlive, Cond.instanceMethod yX1_isAlive, Cond.selects RX1 yX1_isAlive yX1_isAlive, Cond.code yX1_isAlive cX1_isAlive 2 (some .boolean), Cond.fieldLink RX1 63 "WitchTrial" "aliveSet" "I", Cond.methodLink RX1 194 yX1_setOf, Cond.static yX1_setOf, Cond.code yX1_setOf cX1_setOf 1 (some .int), Cond.instanceMethod yX0_allowsClaim, Cond.initialized RX0, Cond.selects RX0 yX0_allowsClaim yX0_allowsClaim, Cond.code yX0_allowsClaim cX0_allowsClaim 4 (some .boolean), Cond.fieldLink RX0 15 "WitchTrial$Book" "truth" "I", Cond.methodLink RX0 51 yX0_agreesWithClaim, Cond.static yX0_agreesWithClaim, Cond.code yX0_agreesWithClaim cX0_agreesWithClaim 4 (some .boolean), Cond.instanceMethod yX0_keepClaim, Cond.selects RX0 yX0_keepClaim yX0_keepClaim, Cond.code yX0_keepClaim cX0_keepClaim 7 none, Cond.fieldLink RX0 11 "WitchTrial$Book" "pages" "[I", Cond.methodLink RX1 86 yX1_knownBits]
def wsX1_claimAmong_r3 : List Cond := [Cond.instanceMethod yX1_knownBits, Cond.selects RX1 yX1_knownBits yX1_knownBits, Cond.code yX1_knownBits cX1_knownBits 3 (some .int), Cond.fieldLink RX1 53 "WitchTrial" "seerPlayer" "I", Cond.fieldLink RX1 66 "WitchTrial" "lookedAtSet" "I", Cond.methodLink RX1 219 yX1_roleBits, Cond.static yX1_roleBits, Cond.code yX1_roleBits cX1_roleBits 1 (some .int), Cond.methodLink RX1 135 yX1_isWitch, Cond.instanceMethod yX1_isWitch, Cond.selects RX1 yX1_isWitch yX1_isWitch, Cond.code yX1_isWitch cX1_isWitch 2 (some .boolean), Cond.fieldLink RX1 50 "WitchTrial" "witchSet" "I", Cond.instanceMethod yX0_count, Cond.selects RX0 yX0_count yX0_count, Cond.code yX0_count cX0_count 4 (some .int), Cond.methodLink RX0 55 yX0_agrees, Cond.instanceMethod yX0_agrees, Cond.selects RX0 yX0_agrees yX0_agrees, Cond.code yX0_agrees cX0_agrees 3 (some .boolean)]
def wsX1_claimAmong : List Cond := .code yX1_claimAmong cX1_claimAmong 3 (some .int) :: ((wsX1_claimAmong_r1 ++ (wsX1_claimAmong_r2 ++ wsX1_claimAmong_r3)) ++ wsX10 ++ wsX00 ++ (vx_atS RX1 44 "java/lang/IllegalArgumentException" ["java/lang/RuntimeException", "java/lang/Exception"]).filter goodWord ++ (vx_atS RX1 175 "java/lang/IllegalStateException" ["java/lang/RuntimeException", "java/lang/Exception"]).filter goodWord ++ (vx_atS RX1 184 "java/lang/IndexOutOfBoundsException" ["java/lang/RuntimeException", "java/lang/Exception"]).filter goodWord ++ (vx_atS RX1 205 "java/util/NoSuchElementException" ["java/lang/RuntimeException", "java/lang/Exception"]).filter goodWord)
def wsX1_requirePhase : List Cond := .code yX1_requirePhase cX1_requirePhase 2 none :: ([.classLink RX1 171 "java/lang/IllegalStateException", .initialized "java/lang/IllegalStateException", .fieldLink RX1 20 "WitchTrial" "phase" "I"] ++ wsX10 ++ (vx_atS RX1 175 "java/lang/IllegalStateException" ["java/lang/RuntimeException", "java/lang/Exception"]).filter goodWord)
def wsX1_countVotes : List Cond := .code yX1_countVotes cX1_countVotes 7 (some .int) :: ([.fieldLink RX1 16 "WitchTrial" "voteOf" "[I"] ++ wsX10)
def wsX1_vote_r1 : List Cond := [Cond.classLink RX1 40 "java/lang/IllegalArgumentException", Cond.initialized "java/lang/IllegalArgumentException", Cond.fieldLink RX1 16 "WitchTrial" "voteOf" "[I", Cond.methodLink RX1 111 yX1_requirePhase, Cond.instanceMethod yX1_requirePhase, Cond.selects RX1 yX1_requirePhase yX1_requirePhase, Cond.initialized RX1, Cond.code yX1_requirePhase cX1_requirePhase 2 none, Cond.classLink RX1 171 "java/lang/IllegalStateException", Cond.initialized "java/lang/IllegalStateException", Cond.fieldLink RX1 20 "WitchTrial" "phase" "I", Cond.methodLink RX1 95 yX1_requirePlayer, Cond.instanceMethod yX1_requirePlayer, Cond.selects RX1 yX1_requirePlayer yX1_requirePlayer, Cond.code yX1_requirePlayer cX1_requirePlayer 2 none, Cond.classLink RX1 180 "java/lang/IndexOutOfBoundsException", Cond.initialized "java/lang/IndexOutOfBoundsException", Cond.fieldLink RX1 47 "WitchTrial" "playerCount" "I", Cond.methodLink RX1 114 yX1_isAlive, Cond.instanceMethod yX1_isAlive, Cond.selects RX1 yX1_isAlive yX1_isAlive, Cond.code yX1_isAlive cX1_isAlive 2 (some .boolean), Cond.fieldLink RX1 63 "WitchTrial" "aliveSet" "I", Cond.methodLink RX1 194 yX1_setOf]
def wsX1_vote_r2 : List Cond := [Cond.static yX1_setOf, Cond.code yX1_setOf cX1_setOf 1 (some .int), Cond.methodLink RX1 120 yX1_countVotes, Cond.instanceMethod yX1_countVotes, Cond.selects RX1 yX1_countVotes yX1_countVotes, Cond.code yX1_countVotes cX1_countVotes 7 (some .int)]
def wsX1_vote : List Cond := .code yX1_vote cX1_vote 3 (some .int) :: ((wsX1_vote_r1 ++ wsX1_vote_r2) ++ wsX10 ++ (vx_atS RX1 44 "java/lang/IllegalArgumentException" ["java/lang/RuntimeException", "java/lang/Exception"]).filter goodWord ++ (vx_atS RX1 175 "java/lang/IllegalStateException" ["java/lang/RuntimeException", "java/lang/Exception"]).filter goodWord ++ (vx_atS RX1 184 "java/lang/IndexOutOfBoundsException" ["java/lang/RuntimeException", "java/lang/Exception"]).filter goodWord)
def wsX1_playerWithMostVotes : List Cond := .code yX1_playerWithMostVotes cX1_playerWithMostVotes 5 (some .int) :: ([.fieldLink RX1 47 "WitchTrial" "playerCount" "I", .methodLink RX1 120 yX1_countVotes, .instanceMethod yX1_countVotes, .selects RX1 yX1_countVotes yX1_countVotes, .initialized RX1, .code yX1_countVotes cX1_countVotes 7 (some .int), .fieldLink RX1 16 "WitchTrial" "voteOf" "[I"] ++ wsX10)
def wsX1_die : List Cond := .code yX1_die cX1_die 4 none :: ([.fieldLink RX1 63 "WitchTrial" "aliveSet" "I", .fieldLink RX1 50 "WitchTrial" "witchSet" "I", .fieldLink RX1 20 "WitchTrial" "phase" "I", .methodLink RX1 194 yX1_setOf, .static yX1_setOf, .initialized RX1, .code yX1_setOf cX1_setOf 1 (some .int), .methodLink RX1 185 yJ6_bitCount_0f7a4, .static yJ6_bitCount_0f7a4, .initialized RJ6, .code yJ6_bitCount_0f7a4 cJ6_bitCount_0f7a4 1 (some .int), .constant RJ6 265 (1431655765), .constant RJ6 266 (858993459), .constant RJ6 267 (252645135)] ++ wsX10)
def wsX1_closeVote_r1 : List Cond := [Cond.fieldLink RX1 20 "WitchTrial" "phase" "I", Cond.methodLink RX1 111 yX1_requirePhase, Cond.instanceMethod yX1_requirePhase, Cond.selects RX1 yX1_requirePhase yX1_requirePhase, Cond.initialized RX1, Cond.code yX1_requirePhase cX1_requirePhase 2 none, Cond.classLink RX1 171 "java/lang/IllegalStateException", Cond.initialized "java/lang/IllegalStateException", Cond.methodLink RX1 123 yX1_playerWithMostVotes, Cond.instanceMethod yX1_playerWithMostVotes, Cond.selects RX1 yX1_playerWithMostVotes yX1_playerWithMostVotes, Cond.code yX1_playerWithMostVotes cX1_playerWithMostVotes 5 (some .int), Cond.fieldLink RX1 47 "WitchTrial" "playerCount" "I", Cond.methodLink RX1 120 yX1_countVotes, Cond.instanceMethod yX1_countVotes, Cond.selects RX1 yX1_countVotes yX1_countVotes, Cond.code yX1_countVotes cX1_countVotes 7 (some .int), Cond.fieldLink RX1 16 "WitchTrial" "voteOf" "[I", Cond.methodLink RX1 72 yX1_forgetVotes, Cond.instanceMethod yX1_forgetVotes, Cond.selects RX1 yX1_forgetVotes yX1_forgetVotes, Cond.code yX1_forgetVotes cX1_forgetVotes 1 none, Cond.methodLink RX1 210 yJ7_fill_53178, Cond.static yJ7_fill_53178]
def wsX1_closeVote_r2 : List Cond := [Cond.initialized RJ7, Cond.code yJ7_fill_53178 cJ7_fill_53178 4 none, Cond.methodLink RX1 127 yX1_die, Cond.instanceMethod yX1_die, Cond.selects RX1 yX1_die yX1_die, Cond.code yX1_die cX1_die 4 none, Cond.fieldLink RX1 63 "WitchTrial" "aliveSet" "I", Cond.fieldLink RX1 50 "WitchTrial" "witchSet" "I", Cond.methodLink RX1 194 yX1_setOf, Cond.static yX1_setOf, Cond.code yX1_setOf cX1_setOf 1 (some .int), Cond.methodLink RX1 185 yJ6_bitCount_0f7a4, Cond.static yJ6_bitCount_0f7a4, Cond.initialized RJ6, Cond.code yJ6_bitCount_0f7a4 cJ6_bitCount_0f7a4 1 (some .int), Cond.constant RJ6 265 (1431655765), Cond.constant RJ6 266 (858993459), Cond.constant RJ6 267 (252645135)]
def wsX1_closeVote : List Cond := .code yX1_closeVote cX1_closeVote 2 (some .int) :: ((wsX1_closeVote_r1 ++ wsX1_closeVote_r2) ++ wsX10 ++ (vx_atS RX1 175 "java/lang/IllegalStateException" ["java/lang/RuntimeException", "java/lang/Exception"]).filter goodWord)
def wsX1_requireToLive : List Cond := .code yX1_requireToLive cX1_requireToLive 2 none :: ([.classLink RX1 171 "java/lang/IllegalStateException", .initialized "java/lang/IllegalStateException", .methodLink RX1 114 yX1_isAlive, .instanceMethod yX1_isAlive, .selects RX1 yX1_isAlive yX1_isAlive, .initialized RX1, .code yX1_isAlive cX1_isAlive 2 (some .boolean), .fieldLink RX1 63 "WitchTrial" "aliveSet" "I", .methodLink RX1 194 yX1_setOf, .static yX1_setOf, .code yX1_setOf cX1_setOf 1 (some .int)] ++ wsX10 ++ (vx_atS RX1 175 "java/lang/IllegalStateException" ["java/lang/RuntimeException", "java/lang/Exception"]).filter goodWord)
def wsX1_protect_r1 : List Cond := [Cond.classLink RX1 40 "java/lang/IllegalArgumentException", Cond.initialized "java/lang/IllegalArgumentException", Cond.fieldLink RX1 56 "WitchTrial" "guardPlayer" "I", Cond.fieldLink RX1 33 "WitchTrial" "protectedLastNight" "I", Cond.fieldLink RX1 24 "WitchTrial" "protectChoice" "I", Cond.methodLink RX1 111 yX1_requirePhase, Cond.instanceMethod yX1_requirePhase, Cond.selects RX1 yX1_requirePhase yX1_requirePhase, Cond.initialized RX1, Cond.code yX1_requirePhase cX1_requirePhase 2 none, Cond.classLink RX1 171 "java/lang/IllegalStateException", Cond.initialized "java/lang/IllegalStateException", Cond.fieldLink RX1 20 "WitchTrial" "phase" "I", Cond.methodLink RX1 130 yX1_requireToLive, Cond.instanceMethod yX1_requireToLive, Cond.selects RX1 yX1_requireToLive yX1_requireToLive, Cond.code yX1_requireToLive cX1_requireToLive 2 none, Cond.methodLink RX1 114 yX1_isAlive, Cond.instanceMethod yX1_isAlive, Cond.selects RX1 yX1_isAlive yX1_isAlive, Cond.code yX1_isAlive cX1_isAlive 2 (some .boolean), Cond.fieldLink RX1 63 "WitchTrial" "aliveSet" "I", Cond.methodLink RX1 194 yX1_setOf, Cond.static yX1_setOf]
def wsX1_protect_r2 : List Cond := [Cond.code yX1_setOf cX1_setOf 1 (some .int), Cond.methodLink RX1 95 yX1_requirePlayer, Cond.instanceMethod yX1_requirePlayer, Cond.selects RX1 yX1_requirePlayer yX1_requirePlayer, Cond.code yX1_requirePlayer cX1_requirePlayer 2 none, Cond.classLink RX1 180 "java/lang/IndexOutOfBoundsException", Cond.initialized "java/lang/IndexOutOfBoundsException", Cond.fieldLink RX1 47 "WitchTrial" "playerCount" "I"]
def wsX1_protect : List Cond := .code yX1_protect cX1_protect 3 (some .int) :: ((wsX1_protect_r1 ++ wsX1_protect_r2) ++ wsX10 ++ (vx_atS RX1 44 "java/lang/IllegalArgumentException" ["java/lang/RuntimeException", "java/lang/Exception"]).filter goodWord ++ (vx_atS RX1 175 "java/lang/IllegalStateException" ["java/lang/RuntimeException", "java/lang/Exception"]).filter goodWord ++ (vx_atS RX1 184 "java/lang/IndexOutOfBoundsException" ["java/lang/RuntimeException", "java/lang/Exception"]).filter goodWord)
def wsX1_attack_r1 : List Cond := [Cond.classLink RX1 40 "java/lang/IllegalArgumentException", Cond.initialized "java/lang/IllegalArgumentException", Cond.fieldLink RX1 27 "WitchTrial" "attackChoice" "I", Cond.methodLink RX1 111 yX1_requirePhase, Cond.instanceMethod yX1_requirePhase, Cond.selects RX1 yX1_requirePhase yX1_requirePhase, Cond.initialized RX1, Cond.code yX1_requirePhase cX1_requirePhase 2 none, Cond.classLink RX1 171 "java/lang/IllegalStateException", Cond.initialized "java/lang/IllegalStateException", Cond.fieldLink RX1 20 "WitchTrial" "phase" "I", Cond.methodLink RX1 95 yX1_requirePlayer, Cond.instanceMethod yX1_requirePlayer, Cond.selects RX1 yX1_requirePlayer yX1_requirePlayer, Cond.code yX1_requirePlayer cX1_requirePlayer 2 none, Cond.classLink RX1 180 "java/lang/IndexOutOfBoundsException", Cond.initialized "java/lang/IndexOutOfBoundsException", Cond.fieldLink RX1 47 "WitchTrial" "playerCount" "I", Cond.methodLink RX1 114 yX1_isAlive, Cond.instanceMethod yX1_isAlive, Cond.selects RX1 yX1_isAlive yX1_isAlive, Cond.code yX1_isAlive cX1_isAlive 2 (some .boolean), Cond.fieldLink RX1 63 "WitchTrial" "aliveSet" "I", Cond.methodLink RX1 194 yX1_setOf]
def wsX1_attack_r2 : List Cond := [Cond.static yX1_setOf, Cond.code yX1_setOf cX1_setOf 1 (some .int), Cond.methodLink RX1 135 yX1_isWitch, Cond.instanceMethod yX1_isWitch, Cond.selects RX1 yX1_isWitch yX1_isWitch, Cond.code yX1_isWitch cX1_isWitch 2 (some .boolean), Cond.fieldLink RX1 50 "WitchTrial" "witchSet" "I"]
def wsX1_attack : List Cond := .code yX1_attack cX1_attack 3 (some .int) :: ((wsX1_attack_r1 ++ wsX1_attack_r2) ++ wsX10 ++ (vx_atS RX1 44 "java/lang/IllegalArgumentException" ["java/lang/RuntimeException", "java/lang/Exception"]).filter goodWord ++ (vx_atS RX1 175 "java/lang/IllegalStateException" ["java/lang/RuntimeException", "java/lang/Exception"]).filter goodWord ++ (vx_atS RX1 184 "java/lang/IndexOutOfBoundsException" ["java/lang/RuntimeException", "java/lang/Exception"]).filter goodWord)
def wsX1_look_r1 : List Cond := [Cond.classLink RX1 40 "java/lang/IllegalArgumentException", Cond.initialized "java/lang/IllegalArgumentException", Cond.fieldLink RX1 53 "WitchTrial" "seerPlayer" "I", Cond.fieldLink RX1 30 "WitchTrial" "lookChoice" "I", Cond.methodLink RX1 111 yX1_requirePhase, Cond.instanceMethod yX1_requirePhase, Cond.selects RX1 yX1_requirePhase yX1_requirePhase, Cond.initialized RX1, Cond.code yX1_requirePhase cX1_requirePhase 2 none, Cond.classLink RX1 171 "java/lang/IllegalStateException", Cond.initialized "java/lang/IllegalStateException", Cond.fieldLink RX1 20 "WitchTrial" "phase" "I", Cond.methodLink RX1 130 yX1_requireToLive, Cond.instanceMethod yX1_requireToLive, Cond.selects RX1 yX1_requireToLive yX1_requireToLive, Cond.code yX1_requireToLive cX1_requireToLive 2 none, Cond.methodLink RX1 114 yX1_isAlive, Cond.instanceMethod yX1_isAlive, Cond.selects RX1 yX1_isAlive yX1_isAlive, Cond.code yX1_isAlive cX1_isAlive 2 (some .boolean), Cond.fieldLink RX1 63 "WitchTrial" "aliveSet" "I", Cond.methodLink RX1 194 yX1_setOf, Cond.static yX1_setOf, Cond.code yX1_setOf cX1_setOf 1 (some .int)]
def wsX1_look_r2 : List Cond := [Cond.methodLink RX1 95 yX1_requirePlayer, Cond.instanceMethod yX1_requirePlayer, Cond.selects RX1 yX1_requirePlayer yX1_requirePlayer, Cond.code yX1_requirePlayer cX1_requirePlayer 2 none, Cond.classLink RX1 180 "java/lang/IndexOutOfBoundsException", Cond.initialized "java/lang/IndexOutOfBoundsException", Cond.fieldLink RX1 47 "WitchTrial" "playerCount" "I"]
def wsX1_look : List Cond := .code yX1_look cX1_look 3 (some .int) :: ((wsX1_look_r1 ++ wsX1_look_r2) ++ wsX10 ++ (vx_atS RX1 44 "java/lang/IllegalArgumentException" ["java/lang/RuntimeException", "java/lang/Exception"]).filter goodWord ++ (vx_atS RX1 175 "java/lang/IllegalStateException" ["java/lang/RuntimeException", "java/lang/Exception"]).filter goodWord ++ (vx_atS RX1 184 "java/lang/IndexOutOfBoundsException" ["java/lang/RuntimeException", "java/lang/Exception"]).filter goodWord)
def wsX1_seerLooks : List Cond := .code yX1_seerLooks cX1_seerLooks 1 none :: ([.fieldLink RX1 30 "WitchTrial" "lookChoice" "I", .fieldLink RX1 53 "WitchTrial" "seerPlayer" "I", .fieldLink RX1 66 "WitchTrial" "lookedAtSet" "I", .methodLink RX1 114 yX1_isAlive, .instanceMethod yX1_isAlive, .selects RX1 yX1_isAlive yX1_isAlive, .initialized RX1, .code yX1_isAlive cX1_isAlive 2 (some .boolean), .fieldLink RX1 63 "WitchTrial" "aliveSet" "I", .methodLink RX1 194 yX1_setOf, .static yX1_setOf, .code yX1_setOf cX1_setOf 1 (some .int)] ++ wsX10)
def wsX1_endNight_r1 : List Cond := [Cond.fieldLink RX1 27 "WitchTrial" "attackChoice" "I", Cond.fieldLink RX1 24 "WitchTrial" "protectChoice" "I", Cond.fieldLink RX1 20 "WitchTrial" "phase" "I", Cond.fieldLink RX1 69 "WitchTrial" "dayNumber" "I", Cond.fieldLink RX1 33 "WitchTrial" "protectedLastNight" "I", Cond.methodLink RX1 111 yX1_requirePhase, Cond.instanceMethod yX1_requirePhase, Cond.selects RX1 yX1_requirePhase yX1_requirePhase, Cond.initialized RX1, Cond.code yX1_requirePhase cX1_requirePhase 2 none, Cond.classLink RX1 171 "java/lang/IllegalStateException", Cond.initialized "java/lang/IllegalStateException", Cond.methodLink RX1 127 yX1_die, Cond.instanceMethod yX1_die, Cond.selects RX1 yX1_die yX1_die, Cond.code yX1_die cX1_die 4 none, Cond.fieldLink RX1 63 "WitchTrial" "aliveSet" "I", Cond.fieldLink RX1 50 "WitchTrial" "witchSet" "I", Cond.methodLink RX1 194 yX1_setOf, Cond.static yX1_setOf, Cond.code yX1_setOf cX1_setOf 1 (some .int), Cond.methodLink RX1 185 yJ6_bitCount_0f7a4, Cond.static yJ6_bitCount_0f7a4, Cond.initialized RJ6]
def wsX1_endNight_r2 : List Cond := [Cond.code yJ6_bitCount_0f7a4 cJ6_bitCount_0f7a4 1 (some .int), Cond.constant RJ6 265 (1431655765), Cond.constant RJ6 266 (858993459), Cond.constant RJ6 267 (252645135), Cond.methodLink RX1 142 yX1_seerLooks, Cond.instanceMethod yX1_seerLooks, Cond.selects RX1 yX1_seerLooks yX1_seerLooks, Cond.code yX1_seerLooks cX1_seerLooks 1 none, Cond.fieldLink RX1 30 "WitchTrial" "lookChoice" "I", Cond.fieldLink RX1 53 "WitchTrial" "seerPlayer" "I", Cond.fieldLink RX1 66 "WitchTrial" "lookedAtSet" "I", Cond.methodLink RX1 114 yX1_isAlive, Cond.instanceMethod yX1_isAlive, Cond.selects RX1 yX1_isAlive yX1_isAlive, Cond.code yX1_isAlive cX1_isAlive 2 (some .boolean), Cond.methodLink RX1 75 yX1_forgetChoices, Cond.instanceMethod yX1_forgetChoices, Cond.selects RX1 yX1_forgetChoices yX1_forgetChoices, Cond.code yX1_forgetChoices cX1_forgetChoices 1 none]
def wsX1_endNight : List Cond := .code yX1_endNight cX1_endNight 2 (some .int) :: ((wsX1_endNight_r1 ++ wsX1_endNight_r2) ++ wsX10 ++ (vx_atS RX1 175 "java/lang/IllegalStateException" ["java/lang/RuntimeException", "java/lang/Exception"]).filter goodWord)
def wsX1_day : List Cond := .code yX1_day cX1_day 1 (some .int) :: ([.fieldLink RX1 69 "WitchTrial" "dayNumber" "I", .methodLink RX1 92 yX1_requireGame, .instanceMethod yX1_requireGame, .selects RX1 yX1_requireGame yX1_requireGame, .initialized RX1, .code yX1_requireGame cX1_requireGame 1 none, .classLink RX1 171 "java/lang/IllegalStateException", .initialized "java/lang/IllegalStateException", .fieldLink RX1 20 "WitchTrial" "phase" "I"] ++ wsX10 ++ (vx_atS RX1 175 "java/lang/IllegalStateException" ["java/lang/RuntimeException", "java/lang/Exception"]).filter goodWord)
def wsX1_alive : List Cond := .code yX1_alive cX1_alive 1 (some .int) :: ([.fieldLink RX1 63 "WitchTrial" "aliveSet" "I", .methodLink RX1 92 yX1_requireGame, .instanceMethod yX1_requireGame, .selects RX1 yX1_requireGame yX1_requireGame, .initialized RX1, .code yX1_requireGame cX1_requireGame 1 none, .classLink RX1 171 "java/lang/IllegalStateException", .initialized "java/lang/IllegalStateException", .fieldLink RX1 20 "WitchTrial" "phase" "I"] ++ wsX10 ++ (vx_atS RX1 175 "java/lang/IllegalStateException" ["java/lang/RuntimeException", "java/lang/Exception"]).filter goodWord)
def wsX1_votesFor : List Cond := .code yX1_votesFor cX1_votesFor 2 (some .int) :: ([.methodLink RX1 92 yX1_requireGame, .instanceMethod yX1_requireGame, .selects RX1 yX1_requireGame yX1_requireGame, .initialized RX1, .code yX1_requireGame cX1_requireGame 1 none, .classLink RX1 171 "java/lang/IllegalStateException", .initialized "java/lang/IllegalStateException", .fieldLink RX1 20 "WitchTrial" "phase" "I", .methodLink RX1 95 yX1_requirePlayer, .instanceMethod yX1_requirePlayer, .selects RX1 yX1_requirePlayer yX1_requirePlayer, .code yX1_requirePlayer cX1_requirePlayer 2 none, .classLink RX1 180 "java/lang/IndexOutOfBoundsException", .initialized "java/lang/IndexOutOfBoundsException", .fieldLink RX1 47 "WitchTrial" "playerCount" "I", .methodLink RX1 120 yX1_countVotes, .instanceMethod yX1_countVotes, .selects RX1 yX1_countVotes yX1_countVotes, .code yX1_countVotes cX1_countVotes 7 (some .int), .fieldLink RX1 16 "WitchTrial" "voteOf" "[I"] ++ wsX10 ++ (vx_atS RX1 175 "java/lang/IllegalStateException" ["java/lang/RuntimeException", "java/lang/Exception"]).filter goodWord ++ (vx_atS RX1 184 "java/lang/IndexOutOfBoundsException" ["java/lang/RuntimeException", "java/lang/Exception"]).filter goodWord)
def wsX1_lookedAt : List Cond := .code yX1_lookedAt cX1_lookedAt 1 (some .int) :: ([.fieldLink RX1 66 "WitchTrial" "lookedAtSet" "I", .methodLink RX1 92 yX1_requireGame, .instanceMethod yX1_requireGame, .selects RX1 yX1_requireGame yX1_requireGame, .initialized RX1, .code yX1_requireGame cX1_requireGame 1 none, .classLink RX1 171 "java/lang/IllegalStateException", .initialized "java/lang/IllegalStateException", .fieldLink RX1 20 "WitchTrial" "phase" "I"] ++ wsX10 ++ (vx_atS RX1 175 "java/lang/IllegalStateException" ["java/lang/RuntimeException", "java/lang/Exception"]).filter goodWord)
def wsX1_requireViewer : List Cond := .code yX1_requireViewer cX1_requireViewer 2 none :: ([.methodLink RX1 95 yX1_requirePlayer, .instanceMethod yX1_requirePlayer, .selects RX1 yX1_requirePlayer yX1_requirePlayer, .initialized RX1, .code yX1_requirePlayer cX1_requirePlayer 2 none, .classLink RX1 180 "java/lang/IndexOutOfBoundsException", .initialized "java/lang/IndexOutOfBoundsException", .fieldLink RX1 47 "WitchTrial" "playerCount" "I"] ++ wsX10 ++ (vx_atS RX1 184 "java/lang/IndexOutOfBoundsException" ["java/lang/RuntimeException", "java/lang/Exception"]).filter goodWord)
def wsX1_worlds_r1 : List Cond := [Cond.fieldLink RX1 12 "WitchTrial" "book" "LWitchTrial$Book;", Cond.methodLink RX1 92 yX1_requireGame, Cond.instanceMethod yX1_requireGame, Cond.selects RX1 yX1_requireGame yX1_requireGame, Cond.initialized RX1, Cond.code yX1_requireGame cX1_requireGame 1 none, Cond.classLink RX1 171 "java/lang/IllegalStateException", Cond.initialized "java/lang/IllegalStateException", Cond.fieldLink RX1 20 "WitchTrial" "phase" "I", Cond.methodLink RX1 145 yX1_requireViewer, Cond.instanceMethod yX1_requireViewer, Cond.selects RX1 yX1_requireViewer yX1_requireViewer, Cond.code yX1_requireViewer cX1_requireViewer 2 none, Cond.methodLink RX1 95 yX1_requirePlayer, Cond.instanceMethod yX1_requirePlayer, Cond.selects RX1 yX1_requirePlayer yX1_requirePlayer, Cond.code yX1_requirePlayer cX1_requirePlayer 2 none, Cond.classLink RX1 180 "java/lang/IndexOutOfBoundsException", Cond.initialized "java/lang/IndexOutOfBoundsException", Cond.fieldLink RX1 47 "WitchTrial" "playerCount" "I", Cond.methodLink RX1 86 yX1_knownBits, Cond.instanceMethod yX1_knownBits, Cond.selects RX1 yX1_knownBits yX1_knownBits, Cond.code yX1_knownBits cX1_knownBits 3 (some .int)]
def wsX1_worlds_r2 : List Cond := [Cond.fieldLink RX1 63 "WitchTrial" "aliveSet" "I", Cond.fieldLink RX1 53 "WitchTrial" "seerPlayer" "I", Cond.fieldLink RX1 66 "WitchTrial" "lookedAtSet" "I", Cond.methodLink RX1 59 yX1_everyone, Cond.static yX1_everyone, Cond.code yX1_everyone cX1_everyone 1 (some .int), Cond.methodLink RX1 219 yX1_roleBits, Cond.static yX1_roleBits, Cond.code yX1_roleBits cX1_roleBits 1 (some .int), Cond.methodLink RX1 194 yX1_setOf, Cond.static yX1_setOf, Cond.code yX1_setOf cX1_setOf 1 (some .int), Cond.methodLink RX1 135 yX1_isWitch, Cond.instanceMethod yX1_isWitch, Cond.selects RX1 yX1_isWitch yX1_isWitch, Cond.code yX1_isWitch cX1_isWitch 2 (some .boolean), Cond.fieldLink RX1 50 "WitchTrial" "witchSet" "I", Cond.instanceMethod yX0_count, Cond.initialized RX0, Cond.selects RX0 yX0_count yX0_count, Cond.code yX0_count cX0_count 4 (some .int), Cond.fieldLink RX0 11 "WitchTrial$Book" "pages" "[I", Cond.methodLink RX0 55 yX0_agrees, Cond.instanceMethod yX0_agrees]
def wsX1_worlds_r3 : List Cond := [Cond.selects RX0 yX0_agrees yX0_agrees, Cond.code yX0_agrees cX0_agrees 3 (some .boolean), Cond.fieldLink RX0 15 "WitchTrial$Book" "truth" "I"]
def wsX1_worlds : List Cond := .code yX1_worlds cX1_worlds 2 (some .int) :: ((wsX1_worlds_r1 ++ (wsX1_worlds_r2 ++ wsX1_worlds_r3)) ++ wsX10 ++ wsX00 ++ (vx_atS RX1 175 "java/lang/IllegalStateException" ["java/lang/RuntimeException", "java/lang/Exception"]).filter goodWord ++ (vx_atS RX1 184 "java/lang/IndexOutOfBoundsException" ["java/lang/RuntimeException", "java/lang/Exception"]).filter goodWord)
def wsX1_worldsWith_r1 : List Cond := [Cond.classLink RX1 40 "java/lang/IllegalArgumentException", Cond.initialized "java/lang/IllegalArgumentException", Cond.fieldLink RX1 12 "WitchTrial" "book" "LWitchTrial$Book;", Cond.methodLink RX1 92 yX1_requireGame, Cond.instanceMethod yX1_requireGame, Cond.selects RX1 yX1_requireGame yX1_requireGame, Cond.initialized RX1, Cond.code yX1_requireGame cX1_requireGame 1 none, Cond.classLink RX1 171 "java/lang/IllegalStateException", Cond.initialized "java/lang/IllegalStateException", Cond.fieldLink RX1 20 "WitchTrial" "phase" "I", Cond.methodLink RX1 145 yX1_requireViewer, Cond.instanceMethod yX1_requireViewer, Cond.selects RX1 yX1_requireViewer yX1_requireViewer, Cond.code yX1_requireViewer cX1_requireViewer 2 none, Cond.methodLink RX1 95 yX1_requirePlayer, Cond.instanceMethod yX1_requirePlayer, Cond.selects RX1 yX1_requirePlayer yX1_requirePlayer, Cond.code yX1_requirePlayer cX1_requirePlayer 2 none, Cond.classLink RX1 180 "java/lang/IndexOutOfBoundsException", Cond.initialized "java/lang/IndexOutOfBoundsException", Cond.fieldLink RX1 47 "WitchTrial" "playerCount" "I", Cond.methodLink RX1 86 yX1_knownBits, Cond.instanceMethod yX1_knownBits]
def wsX1_worldsWith_r2 : List Cond := [Cond.selects RX1 yX1_knownBits yX1_knownBits, Cond.code yX1_knownBits cX1_knownBits 3 (some .int), Cond.fieldLink RX1 63 "WitchTrial" "aliveSet" "I", Cond.fieldLink RX1 53 "WitchTrial" "seerPlayer" "I", Cond.fieldLink RX1 66 "WitchTrial" "lookedAtSet" "I", Cond.methodLink RX1 59 yX1_everyone, Cond.static yX1_everyone, Cond.code yX1_everyone cX1_everyone 1 (some .int), Cond.methodLink RX1 219 yX1_roleBits, Cond.static yX1_roleBits, Cond.code yX1_roleBits cX1_roleBits 1 (some .int), Cond.methodLink RX1 194 yX1_setOf, Cond.static yX1_setOf, Cond.code yX1_setOf cX1_setOf 1 (some .int), Cond.methodLink RX1 135 yX1_isWitch, Cond.instanceMethod yX1_isWitch, Cond.selects RX1 yX1_isWitch yX1_isWitch, Cond.code yX1_isWitch cX1_isWitch 2 (some .boolean), Cond.fieldLink RX1 50 "WitchTrial" "witchSet" "I", Cond.instanceMethod yX0_countWithRole, Cond.initialized RX0, Cond.selects RX0 yX0_countWithRole yX0_countWithRole, Cond.code yX0_countWithRole cX0_countWithRole 8 (some .int), Cond.fieldLink RX0 11 "WitchTrial$Book" "pages" "[I"]
def wsX1_worldsWith_r3 : List Cond := [Cond.static yX1_bitOfRole, Cond.code yX1_bitOfRole cX1_bitOfRole 2 (some .int), Cond.methodLink RX0 55 yX0_agrees, Cond.instanceMethod yX0_agrees, Cond.selects RX0 yX0_agrees yX0_agrees, Cond.code yX0_agrees cX0_agrees 3 (some .boolean), Cond.fieldLink RX0 15 "WitchTrial$Book" "truth" "I"]
def wsX1_worldsWith : List Cond := .code yX1_worldsWith cX1_worldsWith 4 (some .int) :: ((wsX1_worldsWith_r1 ++ (wsX1_worldsWith_r2 ++ wsX1_worldsWith_r3)) ++ wsX10 ++ wsX00 ++ (vx_atS RX1 44 "java/lang/IllegalArgumentException" ["java/lang/RuntimeException", "java/lang/Exception"]).filter goodWord ++ (vx_atS RX1 175 "java/lang/IllegalStateException" ["java/lang/RuntimeException", "java/lang/Exception"]).filter goodWord ++ (vx_atS RX1 184 "java/lang/IndexOutOfBoundsException" ["java/lang/RuntimeException", "java/lang/Exception"]).filter goodWord)
def wsX1_sureWitches_r1 : List Cond := [Cond.fieldLink RX1 12 "WitchTrial" "book" "LWitchTrial$Book;", Cond.methodLink RX1 92 yX1_requireGame, Cond.instanceMethod yX1_requireGame, Cond.selects RX1 yX1_requireGame yX1_requireGame, Cond.initialized RX1, Cond.code yX1_requireGame cX1_requireGame 1 none, Cond.classLink RX1 171 "java/lang/IllegalStateException", Cond.initialized "java/lang/IllegalStateException", Cond.fieldLink RX1 20 "WitchTrial" "phase" "I", Cond.methodLink RX1 145 yX1_requireViewer, Cond.instanceMethod yX1_requireViewer, Cond.selects RX1 yX1_requireViewer yX1_requireViewer, Cond.code yX1_requireViewer cX1_requireViewer 2 none, Cond.methodLink RX1 95 yX1_requirePlayer, Cond.instanceMethod yX1_requirePlayer, Cond.selects RX1 yX1_requirePlayer yX1_requirePlayer, Cond.code yX1_requirePlayer cX1_requirePlayer 2 none, Cond.classLink RX1 180 "java/lang/IndexOutOfBoundsException", Cond.initialized "java/lang/IndexOutOfBoundsException", Cond.fieldLink RX1 47 "WitchTrial" "playerCount" "I", Cond.methodLink RX1 86 yX1_knownBits, Cond.instanceMethod yX1_knownBits, Cond.selects RX1 yX1_knownBits yX1_knownBits, Cond.code yX1_knownBits cX1_knownBits 3 (some .int)]
def wsX1_sureWitches_r2 : List Cond := [Cond.fieldLink RX1 63 "WitchTrial" "aliveSet" "I", Cond.fieldLink RX1 53 "WitchTrial" "seerPlayer" "I", Cond.fieldLink RX1 66 "WitchTrial" "lookedAtSet" "I", Cond.methodLink RX1 59 yX1_everyone, Cond.static yX1_everyone, Cond.code yX1_everyone cX1_everyone 1 (some .int), Cond.methodLink RX1 219 yX1_roleBits, Cond.static yX1_roleBits, Cond.code yX1_roleBits cX1_roleBits 1 (some .int), Cond.methodLink RX1 194 yX1_setOf, Cond.static yX1_setOf, Cond.code yX1_setOf cX1_setOf 1 (some .int), Cond.methodLink RX1 135 yX1_isWitch, Cond.instanceMethod yX1_isWitch, Cond.selects RX1 yX1_isWitch yX1_isWitch, Cond.code yX1_isWitch cX1_isWitch 2 (some .boolean), Cond.fieldLink RX1 50 "WitchTrial" "witchSet" "I", Cond.instanceMethod yX0_witchesInAll, Cond.initialized RX0, Cond.selects RX0 yX0_witchesInAll yX0_witchesInAll, Cond.code yX0_witchesInAll cX0_witchesInAll 4 (some .int), Cond.fieldLink RX0 11 "WitchTrial$Book" "pages" "[I", Cond.methodLink RX0 55 yX0_agrees, Cond.instanceMethod yX0_agrees]
def wsX1_sureWitches_r3 : List Cond := [Cond.selects RX0 yX0_agrees yX0_agrees, Cond.code yX0_agrees cX0_agrees 3 (some .boolean), Cond.fieldLink RX0 15 "WitchTrial$Book" "truth" "I", Cond.static yX1_witchesOf, Cond.code yX1_witchesOf cX1_witchesOf 1 (some .int)]
def wsX1_sureWitches : List Cond := .code yX1_sureWitches cX1_sureWitches 2 (some .int) :: ((wsX1_sureWitches_r1 ++ (wsX1_sureWitches_r2 ++ wsX1_sureWitches_r3)) ++ wsX10 ++ wsX00 ++ (vx_atS RX1 175 "java/lang/IllegalStateException" ["java/lang/RuntimeException", "java/lang/Exception"]).filter goodWord ++ (vx_atS RX1 184 "java/lang/IndexOutOfBoundsException" ["java/lang/RuntimeException", "java/lang/Exception"]).filter goodWord)
def wsX1_sureHonest_r1 : List Cond := [Cond.fieldLink RX1 47 "WitchTrial" "playerCount" "I", Cond.fieldLink RX1 12 "WitchTrial" "book" "LWitchTrial$Book;", Cond.methodLink RX1 92 yX1_requireGame, Cond.instanceMethod yX1_requireGame, Cond.selects RX1 yX1_requireGame yX1_requireGame, Cond.initialized RX1, Cond.code yX1_requireGame cX1_requireGame 1 none, Cond.classLink RX1 171 "java/lang/IllegalStateException", Cond.initialized "java/lang/IllegalStateException", Cond.fieldLink RX1 20 "WitchTrial" "phase" "I", Cond.methodLink RX1 145 yX1_requireViewer, Cond.instanceMethod yX1_requireViewer, Cond.selects RX1 yX1_requireViewer yX1_requireViewer, Cond.code yX1_requireViewer cX1_requireViewer 2 none, Cond.methodLink RX1 95 yX1_requirePlayer, Cond.instanceMethod yX1_requirePlayer, Cond.selects RX1 yX1_requirePlayer yX1_requirePlayer, Cond.code yX1_requirePlayer cX1_requirePlayer 2 none, Cond.classLink RX1 180 "java/lang/IndexOutOfBoundsException", Cond.initialized "java/lang/IndexOutOfBoundsException", Cond.methodLink RX1 59 yX1_everyone, Cond.static yX1_everyone, Cond.code yX1_everyone cX1_everyone 1 (some .int), Cond.methodLink RX1 86 yX1_knownBits]
def wsX1_sureHonest_r2 : List Cond := [Cond.instanceMethod yX1_knownBits, Cond.selects RX1 yX1_knownBits yX1_knownBits, Cond.code yX1_knownBits cX1_knownBits 3 (some .int), Cond.fieldLink RX1 63 "WitchTrial" "aliveSet" "I", Cond.fieldLink RX1 53 "WitchTrial" "seerPlayer" "I", Cond.fieldLink RX1 66 "WitchTrial" "lookedAtSet" "I", Cond.methodLink RX1 219 yX1_roleBits, Cond.static yX1_roleBits, Cond.code yX1_roleBits cX1_roleBits 1 (some .int), Cond.methodLink RX1 194 yX1_setOf, Cond.static yX1_setOf, Cond.code yX1_setOf cX1_setOf 1 (some .int), Cond.methodLink RX1 135 yX1_isWitch, Cond.instanceMethod yX1_isWitch, Cond.selects RX1 yX1_isWitch yX1_isWitch, Cond.code yX1_isWitch cX1_isWitch 2 (some .boolean), Cond.fieldLink RX1 50 "WitchTrial" "witchSet" "I", Cond.instanceMethod yX0_witchesInAny, Cond.initialized RX0, Cond.selects RX0 yX0_witchesInAny yX0_witchesInAny, Cond.code yX0_witchesInAny cX0_witchesInAny 4 (some .int), Cond.fieldLink RX0 11 "WitchTrial$Book" "pages" "[I", Cond.methodLink RX0 55 yX0_agrees, Cond.instanceMethod yX0_agrees]
def wsX1_sureHonest_r3 : List Cond := [Cond.selects RX0 yX0_agrees yX0_agrees, Cond.code yX0_agrees cX0_agrees 3 (some .boolean), Cond.fieldLink RX0 15 "WitchTrial$Book" "truth" "I", Cond.static yX1_witchesOf, Cond.code yX1_witchesOf cX1_witchesOf 1 (some .int)]
def wsX1_sureHonest : List Cond := .code yX1_sureHonest cX1_sureHonest 2 (some .int) :: ((wsX1_sureHonest_r1 ++ (wsX1_sureHonest_r2 ++ wsX1_sureHonest_r3)) ++ wsX10 ++ wsX00 ++ (vx_atS RX1 175 "java/lang/IllegalStateException" ["java/lang/RuntimeException", "java/lang/Exception"]).filter goodWord ++ (vx_atS RX1 184 "java/lang/IndexOutOfBoundsException" ["java/lang/RuntimeException", "java/lang/Exception"]).filter goodWord)
def wsX1_witchSets_r1 : List Cond := [Cond.fieldLink RX1 12 "WitchTrial" "book" "LWitchTrial$Book;", Cond.methodLink RX1 92 yX1_requireGame, Cond.instanceMethod yX1_requireGame, Cond.selects RX1 yX1_requireGame yX1_requireGame, Cond.initialized RX1, Cond.code yX1_requireGame cX1_requireGame 1 none, Cond.classLink RX1 171 "java/lang/IllegalStateException", Cond.initialized "java/lang/IllegalStateException", Cond.fieldLink RX1 20 "WitchTrial" "phase" "I", Cond.methodLink RX1 145 yX1_requireViewer, Cond.instanceMethod yX1_requireViewer, Cond.selects RX1 yX1_requireViewer yX1_requireViewer, Cond.code yX1_requireViewer cX1_requireViewer 2 none, Cond.methodLink RX1 95 yX1_requirePlayer, Cond.instanceMethod yX1_requirePlayer, Cond.selects RX1 yX1_requirePlayer yX1_requirePlayer, Cond.code yX1_requirePlayer cX1_requirePlayer 2 none, Cond.classLink RX1 180 "java/lang/IndexOutOfBoundsException", Cond.initialized "java/lang/IndexOutOfBoundsException", Cond.fieldLink RX1 47 "WitchTrial" "playerCount" "I", Cond.methodLink RX1 86 yX1_knownBits, Cond.instanceMethod yX1_knownBits, Cond.selects RX1 yX1_knownBits yX1_knownBits, Cond.code yX1_knownBits cX1_knownBits 3 (some .int)]
def wsX1_witchSets_r2 : List Cond := [Cond.fieldLink RX1 63 "WitchTrial" "aliveSet" "I", Cond.fieldLink RX1 53 "WitchTrial" "seerPlayer" "I", Cond.fieldLink RX1 66 "WitchTrial" "lookedAtSet" "I", Cond.methodLink RX1 59 yX1_everyone, Cond.static yX1_everyone, Cond.code yX1_everyone cX1_everyone 1 (some .int), Cond.methodLink RX1 219 yX1_roleBits, Cond.static yX1_roleBits, Cond.code yX1_roleBits cX1_roleBits 1 (some .int), Cond.methodLink RX1 194 yX1_setOf, Cond.static yX1_setOf, Cond.code yX1_setOf cX1_setOf 1 (some .int), Cond.methodLink RX1 135 yX1_isWitch, Cond.instanceMethod yX1_isWitch, Cond.selects RX1 yX1_isWitch yX1_isWitch, Cond.code yX1_isWitch cX1_isWitch 2 (some .boolean), Cond.fieldLink RX1 50 "WitchTrial" "witchSet" "I", Cond.instanceMethod yX0_countWitchSets, Cond.initialized RX0, Cond.selects RX0 yX0_countWitchSets yX0_countWitchSets, Cond.code yX0_countWitchSets cX0_countWitchSets 5 (some .int), Cond.fieldLink RX0 11 "WitchTrial$Book" "pages" "[I", Cond.methodLink RX0 55 yX0_agrees, Cond.instanceMethod yX0_agrees]
def wsX1_witchSets_r3 : List Cond := [Cond.selects RX0 yX0_agrees yX0_agrees, Cond.code yX0_agrees cX0_agrees 3 (some .boolean), Cond.fieldLink RX0 15 "WitchTrial$Book" "truth" "I", Cond.static yX1_witchesOf, Cond.code yX1_witchesOf cX1_witchesOf 1 (some .int)]
def wsX1_witchSets : List Cond := .code yX1_witchSets cX1_witchSets 2 (some .int) :: ((wsX1_witchSets_r1 ++ (wsX1_witchSets_r2 ++ wsX1_witchSets_r3)) ++ wsX10 ++ wsX00 ++ (vx_atS RX1 175 "java/lang/IllegalStateException" ["java/lang/RuntimeException", "java/lang/Exception"]).filter goodWord ++ (vx_atS RX1 184 "java/lang/IndexOutOfBoundsException" ["java/lang/RuntimeException", "java/lang/Exception"]).filter goodWord)
def wsX1_suspect_r1 : List Cond := [Cond.fieldLink RX1 47 "WitchTrial" "playerCount" "I", Cond.fieldLink RX1 12 "WitchTrial" "book" "LWitchTrial$Book;", Cond.methodLink RX1 92 yX1_requireGame, Cond.instanceMethod yX1_requireGame, Cond.selects RX1 yX1_requireGame yX1_requireGame, Cond.initialized RX1, Cond.code yX1_requireGame cX1_requireGame 1 none, Cond.classLink RX1 171 "java/lang/IllegalStateException", Cond.initialized "java/lang/IllegalStateException", Cond.fieldLink RX1 20 "WitchTrial" "phase" "I", Cond.methodLink RX1 145 yX1_requireViewer, Cond.instanceMethod yX1_requireViewer, Cond.selects RX1 yX1_requireViewer yX1_requireViewer, Cond.code yX1_requireViewer cX1_requireViewer 2 none, Cond.methodLink RX1 95 yX1_requirePlayer, Cond.instanceMethod yX1_requirePlayer, Cond.selects RX1 yX1_requirePlayer yX1_requirePlayer, Cond.code yX1_requirePlayer cX1_requirePlayer 2 none, Cond.classLink RX1 180 "java/lang/IndexOutOfBoundsException", Cond.initialized "java/lang/IndexOutOfBoundsException", Cond.methodLink RX1 86 yX1_knownBits, Cond.instanceMethod yX1_knownBits, Cond.selects RX1 yX1_knownBits yX1_knownBits, Cond.code yX1_knownBits cX1_knownBits 3 (some .int)]
def wsX1_suspect_r2 : List Cond := [Cond.fieldLink RX1 63 "WitchTrial" "aliveSet" "I", Cond.fieldLink RX1 53 "WitchTrial" "seerPlayer" "I", Cond.fieldLink RX1 66 "WitchTrial" "lookedAtSet" "I", Cond.methodLink RX1 59 yX1_everyone, Cond.static yX1_everyone, Cond.code yX1_everyone cX1_everyone 1 (some .int), Cond.methodLink RX1 219 yX1_roleBits, Cond.static yX1_roleBits, Cond.code yX1_roleBits cX1_roleBits 1 (some .int), Cond.methodLink RX1 194 yX1_setOf, Cond.static yX1_setOf, Cond.code yX1_setOf cX1_setOf 1 (some .int), Cond.methodLink RX1 135 yX1_isWitch, Cond.instanceMethod yX1_isWitch, Cond.selects RX1 yX1_isWitch yX1_isWitch, Cond.code yX1_isWitch cX1_isWitch 2 (some .boolean), Cond.fieldLink RX1 50 "WitchTrial" "witchSet" "I", Cond.methodLink RX1 114 yX1_isAlive, Cond.instanceMethod yX1_isAlive, Cond.selects RX1 yX1_isAlive yX1_isAlive, Cond.code yX1_isAlive cX1_isAlive 2 (some .boolean), Cond.instanceMethod yX0_countWithRole, Cond.initialized RX0, Cond.selects RX0 yX0_countWithRole yX0_countWithRole]
def wsX1_suspect_r3 : List Cond := [Cond.code yX0_countWithRole cX0_countWithRole 8 (some .int), Cond.fieldLink RX0 11 "WitchTrial$Book" "pages" "[I", Cond.static yX1_bitOfRole, Cond.code yX1_bitOfRole cX1_bitOfRole 2 (some .int), Cond.methodLink RX0 55 yX0_agrees, Cond.instanceMethod yX0_agrees, Cond.selects RX0 yX0_agrees yX0_agrees, Cond.code yX0_agrees cX0_agrees 3 (some .boolean), Cond.fieldLink RX0 15 "WitchTrial$Book" "truth" "I"]
def wsX1_suspect : List Cond := .code yX1_suspect cX1_suspect 7 (some .int) :: ((wsX1_suspect_r1 ++ (wsX1_suspect_r2 ++ wsX1_suspect_r3)) ++ wsX10 ++ wsX00 ++ (vx_atS RX1 175 "java/lang/IllegalStateException" ["java/lang/RuntimeException", "java/lang/Exception"]).filter goodWord ++ (vx_atS RX1 184 "java/lang/IndexOutOfBoundsException" ["java/lang/RuntimeException", "java/lang/Exception"]).filter goodWord)
def wsX1_bestLook_r1 : List Cond := [Cond.fieldLink RX1 53 "WitchTrial" "seerPlayer" "I", Cond.fieldLink RX1 12 "WitchTrial" "book" "LWitchTrial$Book;", Cond.fieldLink RX1 47 "WitchTrial" "playerCount" "I", Cond.methodLink RX1 162 Lib.Math.max.name, Cond.static Lib.Math.max.name, Cond.initialized "java/lang/Math", Cond.code Lib.Math.max.name Lib.Math.max.code 2 (some .int), Cond.methodLink RX1 92 yX1_requireGame, Cond.instanceMethod yX1_requireGame, Cond.selects RX1 yX1_requireGame yX1_requireGame, Cond.initialized RX1, Cond.code yX1_requireGame cX1_requireGame 1 none, Cond.classLink RX1 171 "java/lang/IllegalStateException", Cond.initialized "java/lang/IllegalStateException", Cond.fieldLink RX1 20 "WitchTrial" "phase" "I", Cond.methodLink RX1 86 yX1_knownBits, Cond.instanceMethod yX1_knownBits, Cond.selects RX1 yX1_knownBits yX1_knownBits, Cond.code yX1_knownBits cX1_knownBits 3 (some .int), Cond.fieldLink RX1 63 "WitchTrial" "aliveSet" "I", Cond.fieldLink RX1 66 "WitchTrial" "lookedAtSet" "I", Cond.methodLink RX1 59 yX1_everyone, Cond.static yX1_everyone, Cond.code yX1_everyone cX1_everyone 1 (some .int)]
def wsX1_bestLook_r2 : List Cond := [Cond.methodLink RX1 219 yX1_roleBits, Cond.static yX1_roleBits, Cond.code yX1_roleBits cX1_roleBits 1 (some .int), Cond.methodLink RX1 194 yX1_setOf, Cond.static yX1_setOf, Cond.code yX1_setOf cX1_setOf 1 (some .int), Cond.methodLink RX1 135 yX1_isWitch, Cond.instanceMethod yX1_isWitch, Cond.selects RX1 yX1_isWitch yX1_isWitch, Cond.code yX1_isWitch cX1_isWitch 2 (some .boolean), Cond.fieldLink RX1 50 "WitchTrial" "witchSet" "I", Cond.instanceMethod yX0_count, Cond.initialized RX0, Cond.selects RX0 yX0_count yX0_count, Cond.code yX0_count cX0_count 4 (some .int), Cond.fieldLink RX0 11 "WitchTrial$Book" "pages" "[I", Cond.methodLink RX0 55 yX0_agrees, Cond.instanceMethod yX0_agrees, Cond.selects RX0 yX0_agrees yX0_agrees, Cond.code yX0_agrees cX0_agrees 3 (some .boolean), Cond.fieldLink RX0 15 "WitchTrial$Book" "truth" "I", Cond.methodLink RX1 114 yX1_isAlive, Cond.instanceMethod yX1_isAlive, Cond.selects RX1 yX1_isAlive yX1_isAlive]
def wsX1_bestLook_r3 : List Cond := [Cond.code yX1_isAlive cX1_isAlive 2 (some .boolean), Cond.instanceMethod yX0_countWithRole, Cond.selects RX0 yX0_countWithRole yX0_countWithRole, Cond.code yX0_countWithRole cX0_countWithRole 8 (some .int), Cond.static yX1_bitOfRole, Cond.code yX1_bitOfRole cX1_bitOfRole 2 (some .int)]
def wsX1_bestLook : List Cond := .code yX1_bestLook cX1_bestLook 8 (some .int) :: ((wsX1_bestLook_r1 ++ (wsX1_bestLook_r2 ++ wsX1_bestLook_r3)) ++ wsX10 ++ wsX00 ++ (vx_atS RX1 175 "java/lang/IllegalStateException" ["java/lang/RuntimeException", "java/lang/Exception"]).filter goodWord)
def wsX1_isPossible_r1 : List Cond := [Cond.fieldLink RX1 12 "WitchTrial" "book" "LWitchTrial$Book;", Cond.methodLink RX1 92 yX1_requireGame, Cond.instanceMethod yX1_requireGame, Cond.selects RX1 yX1_requireGame yX1_requireGame, Cond.initialized RX1, Cond.code yX1_requireGame cX1_requireGame 1 none, Cond.classLink RX1 171 "java/lang/IllegalStateException", Cond.initialized "java/lang/IllegalStateException", Cond.fieldLink RX1 20 "WitchTrial" "phase" "I", Cond.methodLink RX1 145 yX1_requireViewer, Cond.instanceMethod yX1_requireViewer, Cond.selects RX1 yX1_requireViewer yX1_requireViewer, Cond.code yX1_requireViewer cX1_requireViewer 2 none, Cond.methodLink RX1 95 yX1_requirePlayer, Cond.instanceMethod yX1_requirePlayer, Cond.selects RX1 yX1_requirePlayer yX1_requirePlayer, Cond.code yX1_requirePlayer cX1_requirePlayer 2 none, Cond.classLink RX1 180 "java/lang/IndexOutOfBoundsException", Cond.initialized "java/lang/IndexOutOfBoundsException", Cond.fieldLink RX1 47 "WitchTrial" "playerCount" "I", Cond.methodLink RX1 78 yX1_worldOf, Cond.static yX1_worldOf, Cond.code yX1_worldOf cX1_worldOf 3 (some .int), Cond.methodLink RX1 194 yX1_setOf]
def wsX1_isPossible_r2 : List Cond := [Cond.static yX1_setOf, Cond.code yX1_setOf cX1_setOf 1 (some .int), Cond.methodLink RX1 86 yX1_knownBits, Cond.instanceMethod yX1_knownBits, Cond.selects RX1 yX1_knownBits yX1_knownBits, Cond.code yX1_knownBits cX1_knownBits 3 (some .int), Cond.fieldLink RX1 63 "WitchTrial" "aliveSet" "I", Cond.fieldLink RX1 53 "WitchTrial" "seerPlayer" "I", Cond.fieldLink RX1 66 "WitchTrial" "lookedAtSet" "I", Cond.methodLink RX1 59 yX1_everyone, Cond.static yX1_everyone, Cond.code yX1_everyone cX1_everyone 1 (some .int), Cond.methodLink RX1 219 yX1_roleBits, Cond.static yX1_roleBits, Cond.code yX1_roleBits cX1_roleBits 1 (some .int), Cond.methodLink RX1 135 yX1_isWitch, Cond.instanceMethod yX1_isWitch, Cond.selects RX1 yX1_isWitch yX1_isWitch, Cond.code yX1_isWitch cX1_isWitch 2 (some .boolean), Cond.fieldLink RX1 50 "WitchTrial" "witchSet" "I", Cond.instanceMethod yX0_contains, Cond.initialized RX0, Cond.selects RX0 yX0_contains yX0_contains, Cond.code yX0_contains cX0_contains 4 (some .boolean)]
def wsX1_isPossible_r3 : List Cond := [Cond.fieldLink RX0 11 "WitchTrial$Book" "pages" "[I", Cond.methodLink RX0 55 yX0_agrees, Cond.instanceMethod yX0_agrees, Cond.selects RX0 yX0_agrees yX0_agrees, Cond.code yX0_agrees cX0_agrees 3 (some .boolean), Cond.fieldLink RX0 15 "WitchTrial$Book" "truth" "I"]
def wsX1_isPossible : List Cond := .code yX1_isPossible cX1_isPossible 5 (some .boolean) :: ((wsX1_isPossible_r1 ++ (wsX1_isPossible_r2 ++ wsX1_isPossible_r3)) ++ wsX10 ++ wsX00 ++ (vx_atS RX1 175 "java/lang/IllegalStateException" ["java/lang/RuntimeException", "java/lang/Exception"]).filter goodWord ++ (vx_atS RX1 184 "java/lang/IndexOutOfBoundsException" ["java/lang/RuntimeException", "java/lang/Exception"]).filter goodWord)
def wsX2_init : List Cond := .code yX2_init cX2_init 1 none :: ([.methodLink RX2 1 objectInit, .instanceMethod objectInit, .code objectInit ⟨#[0xb1]⟩ 1 none, .arrayClass .boolean, .fieldLink RX2 7 "WitchTrialModel" "isOpen" "[Z", .arrayClass .int, .fieldLink RX2 13 "WitchTrialModel" "votes" "[I", .fieldLink RX2 17 "WitchTrialModel" "many" "[I"] ++ wsX20)
def wsX2_thrown : List Cond := .code yX2_thrown cX2_thrown 1 (some .int) :: ([.fieldLink RX2 20 "WitchTrialModel" "thrown" "I"] ++ wsX20)
def wsX2_in : List Cond := .code yX2_in cX2_in 3 (some .boolean) :: ([])
def wsX2_bits : List Cond := .code yX2_bits cX2_bits 3 (some .int) :: ([])
def wsX2_has : List Cond := .code yX2_has cX2_has 2 (some .boolean) :: ([])
def wsX2_isPlayer : List Cond := .code yX2_isPlayer cX2_isPlayer 2 (some .boolean) :: ([.fieldLink RX2 24 "WitchTrialModel" "players" "I", .methodLink RX2 27 yX2_in, .static yX2_in, .initialized RX2, .code yX2_in cX2_in 3 (some .boolean)] ++ wsX20)
def wsX2_isViewer : List Cond := .code yX2_isViewer cX2_isViewer 2 (some .boolean) :: ([.methodLink RX2 31 yX2_isPlayer, .instanceMethod yX2_isPlayer, .selects RX2 yX2_isPlayer yX2_isPlayer, .initialized RX2, .code yX2_isPlayer cX2_isPlayer 2 (some .boolean), .fieldLink RX2 24 "WitchTrialModel" "players" "I", .methodLink RX2 27 yX2_in, .static yX2_in, .code yX2_in cX2_in 3 (some .boolean)] ++ wsX20)
def wsX2_isWorld : List Cond := .code yX2_isWorld cX2_isWorld 6 (some .boolean) :: ([.methodLink RX2 27 yX2_in, .static yX2_in, .initialized RX2, .code yX2_in cX2_in 3 (some .boolean), .methodLink RX2 35 yX2_bits, .static yX2_bits, .code yX2_bits cX2_bits 3 (some .int), .methodLink RX2 39 yX2_has, .static yX2_has, .code yX2_has cX2_has 2 (some .boolean)])
def wsX2_roleIn : List Cond := .code yX2_roleIn cX2_roleIn 2 (some .int) :: ([.methodLink RX2 39 yX2_has, .static yX2_has, .initialized RX2, .code yX2_has cX2_has 2 (some .boolean)])
def wsX2_truth : List Cond := .code yX2_truth cX2_truth 1 (some .int) :: ([.fieldLink RX2 43 "WitchTrialModel" "witches" "I", .fieldLink RX2 46 "WitchTrialModel" "seer" "I", .fieldLink RX2 49 "WitchTrialModel" "guard" "I"] ++ wsX20)
def wsX2_manyOpen : List Cond := .code yX2_manyOpen cX2_manyOpen 3 (some .int) :: ([.fieldLink RX2 7 "WitchTrialModel" "isOpen" "[Z"] ++ wsX20)
def wsX2_isFor : List Cond := .code yX2_isFor cX2_isFor 5 (some .boolean) :: ([.fieldLink RX2 7 "WitchTrialModel" "isOpen" "[Z", .fieldLink RX2 43 "WitchTrialModel" "witches" "I", .fieldLink RX2 60 "WitchTrialModel" "looked" "I", .methodLink RX2 52 yX2_truth, .instanceMethod yX2_truth, .selects RX2 yX2_truth yX2_truth, .initialized RX2, .code yX2_truth cX2_truth 1 (some .int), .fieldLink RX2 46 "WitchTrialModel" "seer" "I", .fieldLink RX2 49 "WitchTrialModel" "guard" "I", .methodLink RX2 56 yX2_roleIn, .static yX2_roleIn, .code yX2_roleIn cX2_roleIn 2 (some .int), .methodLink RX2 39 yX2_has, .static yX2_has, .code yX2_has cX2_has 2 (some .boolean)] ++ wsX20)
def wsX2_forgets : List Cond := .code yX2_forgets cX2_forgets 2 none :: ([.fieldLink RX2 13 "WitchTrialModel" "votes" "[I", .fieldLink RX2 85 "WitchTrialModel" "shielded" "I", .fieldLink RX2 88 "WitchTrialModel" "attacked" "I", .fieldLink RX2 91 "WitchTrialModel" "watched" "I"] ++ wsX20)
def wsX2_start_r1 : List Cond := [Cond.fieldLink RX2 20 "WitchTrialModel" "thrown" "I", Cond.fieldLink RX2 24 "WitchTrialModel" "players" "I", Cond.fieldLink RX2 43 "WitchTrialModel" "witches" "I", Cond.fieldLink RX2 46 "WitchTrialModel" "seer" "I", Cond.fieldLink RX2 49 "WitchTrialModel" "guard" "I", Cond.fieldLink RX2 7 "WitchTrialModel" "isOpen" "[Z", Cond.fieldLink RX2 67 "WitchTrialModel" "alive" "I", Cond.fieldLink RX2 70 "WitchTrialModel" "phase" "I", Cond.fieldLink RX2 73 "WitchTrialModel" "day" "I", Cond.fieldLink RX2 60 "WitchTrialModel" "looked" "I", Cond.fieldLink RX2 76 "WitchTrialModel" "shieldedBefore" "I", Cond.methodLink RX2 35 yX2_bits, Cond.static yX2_bits, Cond.initialized RX2, Cond.code yX2_bits cX2_bits 3 (some .int), Cond.methodLink RX2 27 yX2_in, Cond.static yX2_in, Cond.code yX2_in cX2_in 3 (some .boolean), Cond.methodLink RX2 63 yX2_isWorld, Cond.static yX2_isWorld, Cond.code yX2_isWorld cX2_isWorld 6 (some .boolean), Cond.methodLink RX2 39 yX2_has, Cond.static yX2_has, Cond.code yX2_has cX2_has 2 (some .boolean)]
def wsX2_start_r2 : List Cond := [Cond.methodLink RX2 79 yX2_forgets, Cond.instanceMethod yX2_forgets, Cond.selects RX2 yX2_forgets yX2_forgets, Cond.code yX2_forgets cX2_forgets 2 none, Cond.fieldLink RX2 13 "WitchTrialModel" "votes" "[I", Cond.fieldLink RX2 85 "WitchTrialModel" "shielded" "I", Cond.fieldLink RX2 88 "WitchTrialModel" "attacked" "I", Cond.fieldLink RX2 91 "WitchTrialModel" "watched" "I", Cond.methodLink RX2 82 yX2_manyOpen, Cond.instanceMethod yX2_manyOpen, Cond.selects RX2 yX2_manyOpen yX2_manyOpen, Cond.code yX2_manyOpen cX2_manyOpen 3 (some .int)]
def wsX2_start : List Cond := .code yX2_start cX2_start 8 (some .int) :: ((wsX2_start_r1 ++ wsX2_start_r2) ++ wsX20)
def wsX2_phase : List Cond := .code yX2_phase cX2_phase 1 (some .int) :: ([.fieldLink RX2 20 "WitchTrialModel" "thrown" "I", .fieldLink RX2 70 "WitchTrialModel" "phase" "I"] ++ wsX20)
def wsX2_isTrue : List Cond := .code yX2_isTrue cX2_isTrue 4 (some .boolean) :: ([.methodLink RX2 56 yX2_roleIn, .static yX2_roleIn, .initialized RX2, .code yX2_roleIn cX2_roleIn 2 (some .int), .methodLink RX2 39 yX2_has, .static yX2_has, .code yX2_has cX2_has 2 (some .boolean)])
def wsX2_may : List Cond := .code yX2_may cX2_may 3 (some .boolean) :: ([.fieldLink RX2 70 "WitchTrialModel" "phase" "I", .fieldLink RX2 67 "WitchTrialModel" "alive" "I", .fieldLink RX2 43 "WitchTrialModel" "witches" "I", .methodLink RX2 39 yX2_has, .static yX2_has, .initialized RX2, .code yX2_has cX2_has 2 (some .boolean)] ++ wsX20)
def wsX2_claim_r1 : List Cond := [Cond.fieldLink RX2 70 "WitchTrialModel" "phase" "I", Cond.fieldLink RX2 20 "WitchTrialModel" "thrown" "I", Cond.fieldLink RX2 7 "WitchTrialModel" "isOpen" "[Z", Cond.methodLink RX2 31 yX2_isPlayer, Cond.instanceMethod yX2_isPlayer, Cond.selects RX2 yX2_isPlayer yX2_isPlayer, Cond.initialized RX2, Cond.code yX2_isPlayer cX2_isPlayer 2 (some .boolean), Cond.fieldLink RX2 24 "WitchTrialModel" "players" "I", Cond.methodLink RX2 27 yX2_in, Cond.static yX2_in, Cond.code yX2_in cX2_in 3 (some .boolean), Cond.methodLink RX2 52 yX2_truth, Cond.instanceMethod yX2_truth, Cond.selects RX2 yX2_truth yX2_truth, Cond.code yX2_truth cX2_truth 1 (some .int), Cond.fieldLink RX2 43 "WitchTrialModel" "witches" "I", Cond.fieldLink RX2 46 "WitchTrialModel" "seer" "I", Cond.fieldLink RX2 49 "WitchTrialModel" "guard" "I", Cond.methodLink RX2 94 yX2_isTrue, Cond.static yX2_isTrue, Cond.code yX2_isTrue cX2_isTrue 4 (some .boolean), Cond.methodLink RX2 56 yX2_roleIn, Cond.static yX2_roleIn]
def wsX2_claim_r2 : List Cond := [Cond.code yX2_roleIn cX2_roleIn 2 (some .int), Cond.methodLink RX2 39 yX2_has, Cond.static yX2_has, Cond.code yX2_has cX2_has 2 (some .boolean), Cond.methodLink RX2 97 yX2_may, Cond.instanceMethod yX2_may, Cond.selects RX2 yX2_may yX2_may, Cond.code yX2_may cX2_may 3 (some .boolean), Cond.fieldLink RX2 67 "WitchTrialModel" "alive" "I", Cond.methodLink RX2 82 yX2_manyOpen, Cond.instanceMethod yX2_manyOpen, Cond.selects RX2 yX2_manyOpen yX2_manyOpen, Cond.code yX2_manyOpen cX2_manyOpen 3 (some .int)]
def wsX2_claim : List Cond := .code yX2_claim cX2_claim 5 (some .int) :: ((wsX2_claim_r1 ++ wsX2_claim_r2) ++ wsX20)
def wsX2_claimAmong_r1 : List Cond := [Cond.fieldLink RX2 70 "WitchTrialModel" "phase" "I", Cond.fieldLink RX2 24 "WitchTrialModel" "players" "I", Cond.fieldLink RX2 43 "WitchTrialModel" "witches" "I", Cond.fieldLink RX2 20 "WitchTrialModel" "thrown" "I", Cond.fieldLink RX2 7 "WitchTrialModel" "isOpen" "[Z", Cond.methodLink RX2 31 yX2_isPlayer, Cond.instanceMethod yX2_isPlayer, Cond.selects RX2 yX2_isPlayer yX2_isPlayer, Cond.initialized RX2, Cond.code yX2_isPlayer cX2_isPlayer 2 (some .boolean), Cond.methodLink RX2 27 yX2_in, Cond.static yX2_in, Cond.code yX2_in cX2_in 3 (some .boolean), Cond.methodLink RX2 97 yX2_may, Cond.instanceMethod yX2_may, Cond.selects RX2 yX2_may yX2_may, Cond.code yX2_may cX2_may 3 (some .boolean), Cond.fieldLink RX2 67 "WitchTrialModel" "alive" "I", Cond.methodLink RX2 39 yX2_has, Cond.static yX2_has, Cond.code yX2_has cX2_has 2 (some .boolean), Cond.methodLink RX2 82 yX2_manyOpen, Cond.instanceMethod yX2_manyOpen, Cond.selects RX2 yX2_manyOpen yX2_manyOpen]
def wsX2_claimAmong_r2 : List Cond := [Cond.code yX2_manyOpen cX2_manyOpen 3 (some .int)]
def wsX2_claimAmong : List Cond := .code yX2_claimAmong cX2_claimAmong 4 (some .int) :: ((wsX2_claimAmong_r1 ++ wsX2_claimAmong_r2) ++ wsX20)
def wsX2_manyVotes : List Cond := .code yX2_manyVotes cX2_manyVotes 4 (some .int) :: ([.fieldLink RX2 13 "WitchTrialModel" "votes" "[I"] ++ wsX20)
def wsX2_vote : List Cond := .code yX2_vote cX2_vote 3 (some .int) :: ([.fieldLink RX2 70 "WitchTrialModel" "phase" "I", .fieldLink RX2 67 "WitchTrialModel" "alive" "I", .fieldLink RX2 20 "WitchTrialModel" "thrown" "I", .fieldLink RX2 13 "WitchTrialModel" "votes" "[I", .methodLink RX2 31 yX2_isPlayer, .instanceMethod yX2_isPlayer, .selects RX2 yX2_isPlayer yX2_isPlayer, .initialized RX2, .code yX2_isPlayer cX2_isPlayer 2 (some .boolean), .fieldLink RX2 24 "WitchTrialModel" "players" "I", .methodLink RX2 27 yX2_in, .static yX2_in, .code yX2_in cX2_in 3 (some .boolean), .methodLink RX2 39 yX2_has, .static yX2_has, .code yX2_has cX2_has 2 (some .boolean), .methodLink RX2 101 yX2_manyVotes, .instanceMethod yX2_manyVotes, .selects RX2 yX2_manyVotes yX2_manyVotes, .code yX2_manyVotes cX2_manyVotes 4 (some .int)] ++ wsX20)
def wsX2_dies : List Cond := .code yX2_dies cX2_dies 4 none :: ([.fieldLink RX2 67 "WitchTrialModel" "alive" "I", .fieldLink RX2 7 "WitchTrialModel" "isOpen" "[Z", .fieldLink RX2 43 "WitchTrialModel" "witches" "I", .fieldLink RX2 70 "WitchTrialModel" "phase" "I", .methodLink RX2 52 yX2_truth, .instanceMethod yX2_truth, .selects RX2 yX2_truth yX2_truth, .initialized RX2, .code yX2_truth cX2_truth 1 (some .int), .fieldLink RX2 46 "WitchTrialModel" "seer" "I", .fieldLink RX2 49 "WitchTrialModel" "guard" "I", .methodLink RX2 56 yX2_roleIn, .static yX2_roleIn, .code yX2_roleIn cX2_roleIn 2 (some .int), .methodLink RX2 39 yX2_has, .static yX2_has, .code yX2_has cX2_has 2 (some .boolean), .methodLink RX2 35 yX2_bits, .static yX2_bits, .code yX2_bits cX2_bits 3 (some .int)] ++ wsX20)
def wsX2_closeVote_r1 : List Cond := [Cond.fieldLink RX2 70 "WitchTrialModel" "phase" "I", Cond.fieldLink RX2 20 "WitchTrialModel" "thrown" "I", Cond.fieldLink RX2 24 "WitchTrialModel" "players" "I", Cond.methodLink RX2 101 yX2_manyVotes, Cond.instanceMethod yX2_manyVotes, Cond.selects RX2 yX2_manyVotes yX2_manyVotes, Cond.initialized RX2, Cond.code yX2_manyVotes cX2_manyVotes 4 (some .int), Cond.fieldLink RX2 13 "WitchTrialModel" "votes" "[I", Cond.methodLink RX2 79 yX2_forgets, Cond.instanceMethod yX2_forgets, Cond.selects RX2 yX2_forgets yX2_forgets, Cond.code yX2_forgets cX2_forgets 2 none, Cond.fieldLink RX2 85 "WitchTrialModel" "shielded" "I", Cond.fieldLink RX2 88 "WitchTrialModel" "attacked" "I", Cond.fieldLink RX2 91 "WitchTrialModel" "watched" "I", Cond.methodLink RX2 104 yX2_dies, Cond.instanceMethod yX2_dies, Cond.selects RX2 yX2_dies yX2_dies, Cond.code yX2_dies cX2_dies 4 none, Cond.fieldLink RX2 67 "WitchTrialModel" "alive" "I", Cond.fieldLink RX2 7 "WitchTrialModel" "isOpen" "[Z", Cond.fieldLink RX2 43 "WitchTrialModel" "witches" "I", Cond.methodLink RX2 52 yX2_truth]
def wsX2_closeVote_r2 : List Cond := [Cond.instanceMethod yX2_truth, Cond.selects RX2 yX2_truth yX2_truth, Cond.code yX2_truth cX2_truth 1 (some .int), Cond.fieldLink RX2 46 "WitchTrialModel" "seer" "I", Cond.fieldLink RX2 49 "WitchTrialModel" "guard" "I", Cond.methodLink RX2 56 yX2_roleIn, Cond.static yX2_roleIn, Cond.code yX2_roleIn cX2_roleIn 2 (some .int), Cond.methodLink RX2 39 yX2_has, Cond.static yX2_has, Cond.code yX2_has cX2_has 2 (some .boolean), Cond.methodLink RX2 35 yX2_bits, Cond.static yX2_bits, Cond.code yX2_bits cX2_bits 3 (some .int)]
def wsX2_closeVote : List Cond := .code yX2_closeVote cX2_closeVote 5 (some .int) :: ((wsX2_closeVote_r1 ++ wsX2_closeVote_r2) ++ wsX20)
def wsX2_protect : List Cond := .code yX2_protect cX2_protect 3 (some .int) :: ([.fieldLink RX2 70 "WitchTrialModel" "phase" "I", .fieldLink RX2 67 "WitchTrialModel" "alive" "I", .fieldLink RX2 49 "WitchTrialModel" "guard" "I", .fieldLink RX2 76 "WitchTrialModel" "shieldedBefore" "I", .fieldLink RX2 20 "WitchTrialModel" "thrown" "I", .fieldLink RX2 85 "WitchTrialModel" "shielded" "I", .methodLink RX2 39 yX2_has, .static yX2_has, .initialized RX2, .code yX2_has cX2_has 2 (some .boolean), .methodLink RX2 31 yX2_isPlayer, .instanceMethod yX2_isPlayer, .selects RX2 yX2_isPlayer yX2_isPlayer, .code yX2_isPlayer cX2_isPlayer 2 (some .boolean), .fieldLink RX2 24 "WitchTrialModel" "players" "I", .methodLink RX2 27 yX2_in, .static yX2_in, .code yX2_in cX2_in 3 (some .boolean)] ++ wsX20)
def wsX2_attack : List Cond := .code yX2_attack cX2_attack 3 (some .int) :: ([.fieldLink RX2 70 "WitchTrialModel" "phase" "I", .fieldLink RX2 67 "WitchTrialModel" "alive" "I", .fieldLink RX2 43 "WitchTrialModel" "witches" "I", .fieldLink RX2 20 "WitchTrialModel" "thrown" "I", .fieldLink RX2 88 "WitchTrialModel" "attacked" "I", .methodLink RX2 31 yX2_isPlayer, .instanceMethod yX2_isPlayer, .selects RX2 yX2_isPlayer yX2_isPlayer, .initialized RX2, .code yX2_isPlayer cX2_isPlayer 2 (some .boolean), .fieldLink RX2 24 "WitchTrialModel" "players" "I", .methodLink RX2 27 yX2_in, .static yX2_in, .code yX2_in cX2_in 3 (some .boolean), .methodLink RX2 39 yX2_has, .static yX2_has, .code yX2_has cX2_has 2 (some .boolean)] ++ wsX20)
def wsX2_look : List Cond := .code yX2_look cX2_look 3 (some .int) :: ([.fieldLink RX2 70 "WitchTrialModel" "phase" "I", .fieldLink RX2 67 "WitchTrialModel" "alive" "I", .fieldLink RX2 46 "WitchTrialModel" "seer" "I", .fieldLink RX2 20 "WitchTrialModel" "thrown" "I", .fieldLink RX2 91 "WitchTrialModel" "watched" "I", .methodLink RX2 39 yX2_has, .static yX2_has, .initialized RX2, .code yX2_has cX2_has 2 (some .boolean), .methodLink RX2 31 yX2_isPlayer, .instanceMethod yX2_isPlayer, .selects RX2 yX2_isPlayer yX2_isPlayer, .code yX2_isPlayer cX2_isPlayer 2 (some .boolean), .fieldLink RX2 24 "WitchTrialModel" "players" "I", .methodLink RX2 27 yX2_in, .static yX2_in, .code yX2_in cX2_in 3 (some .boolean)] ++ wsX20)
def wsX2_endNight_r1 : List Cond := [Cond.fieldLink RX2 70 "WitchTrialModel" "phase" "I", Cond.fieldLink RX2 20 "WitchTrialModel" "thrown" "I", Cond.fieldLink RX2 88 "WitchTrialModel" "attacked" "I", Cond.fieldLink RX2 85 "WitchTrialModel" "shielded" "I", Cond.fieldLink RX2 60 "WitchTrialModel" "looked" "I", Cond.fieldLink RX2 67 "WitchTrialModel" "alive" "I", Cond.fieldLink RX2 46 "WitchTrialModel" "seer" "I", Cond.fieldLink RX2 91 "WitchTrialModel" "watched" "I", Cond.fieldLink RX2 73 "WitchTrialModel" "day" "I", Cond.fieldLink RX2 76 "WitchTrialModel" "shieldedBefore" "I", Cond.methodLink RX2 104 yX2_dies, Cond.instanceMethod yX2_dies, Cond.selects RX2 yX2_dies yX2_dies, Cond.initialized RX2, Cond.code yX2_dies cX2_dies 4 none, Cond.fieldLink RX2 7 "WitchTrialModel" "isOpen" "[Z", Cond.fieldLink RX2 43 "WitchTrialModel" "witches" "I", Cond.methodLink RX2 52 yX2_truth, Cond.instanceMethod yX2_truth, Cond.selects RX2 yX2_truth yX2_truth, Cond.code yX2_truth cX2_truth 1 (some .int), Cond.fieldLink RX2 49 "WitchTrialModel" "guard" "I", Cond.methodLink RX2 56 yX2_roleIn, Cond.static yX2_roleIn]
def wsX2_endNight_r2 : List Cond := [Cond.code yX2_roleIn cX2_roleIn 2 (some .int), Cond.methodLink RX2 39 yX2_has, Cond.static yX2_has, Cond.code yX2_has cX2_has 2 (some .boolean), Cond.methodLink RX2 35 yX2_bits, Cond.static yX2_bits, Cond.code yX2_bits cX2_bits 3 (some .int), Cond.methodLink RX2 79 yX2_forgets, Cond.instanceMethod yX2_forgets, Cond.selects RX2 yX2_forgets yX2_forgets, Cond.code yX2_forgets cX2_forgets 2 none, Cond.fieldLink RX2 13 "WitchTrialModel" "votes" "[I"]
def wsX2_endNight : List Cond := .code yX2_endNight cX2_endNight 2 (some .int) :: ((wsX2_endNight_r1 ++ wsX2_endNight_r2) ++ wsX20)
def wsX2_isGame : List Cond := .code yX2_isGame cX2_isGame 1 (some .boolean) :: ([.fieldLink RX2 70 "WitchTrialModel" "phase" "I", .fieldLink RX2 20 "WitchTrialModel" "thrown" "I"] ++ wsX20)
def wsX2_day : List Cond := .code yX2_day cX2_day 1 (some .int) :: ([.fieldLink RX2 73 "WitchTrialModel" "day" "I", .methodLink RX2 108 yX2_isGame, .instanceMethod yX2_isGame, .selects RX2 yX2_isGame yX2_isGame, .initialized RX2, .code yX2_isGame cX2_isGame 1 (some .boolean), .fieldLink RX2 70 "WitchTrialModel" "phase" "I", .fieldLink RX2 20 "WitchTrialModel" "thrown" "I"] ++ wsX20)
def wsX2_alive : List Cond := .code yX2_alive cX2_alive 1 (some .int) :: ([.fieldLink RX2 67 "WitchTrialModel" "alive" "I", .methodLink RX2 108 yX2_isGame, .instanceMethod yX2_isGame, .selects RX2 yX2_isGame yX2_isGame, .initialized RX2, .code yX2_isGame cX2_isGame 1 (some .boolean), .fieldLink RX2 70 "WitchTrialModel" "phase" "I", .fieldLink RX2 20 "WitchTrialModel" "thrown" "I"] ++ wsX20)
def wsX2_votesFor : List Cond := .code yX2_votesFor cX2_votesFor 2 (some .int) :: ([.fieldLink RX2 70 "WitchTrialModel" "phase" "I", .fieldLink RX2 20 "WitchTrialModel" "thrown" "I", .methodLink RX2 31 yX2_isPlayer, .instanceMethod yX2_isPlayer, .selects RX2 yX2_isPlayer yX2_isPlayer, .initialized RX2, .code yX2_isPlayer cX2_isPlayer 2 (some .boolean), .fieldLink RX2 24 "WitchTrialModel" "players" "I", .methodLink RX2 27 yX2_in, .static yX2_in, .code yX2_in cX2_in 3 (some .boolean), .methodLink RX2 101 yX2_manyVotes, .instanceMethod yX2_manyVotes, .selects RX2 yX2_manyVotes yX2_manyVotes, .code yX2_manyVotes cX2_manyVotes 4 (some .int), .fieldLink RX2 13 "WitchTrialModel" "votes" "[I"] ++ wsX20)
def wsX2_lookedAt : List Cond := .code yX2_lookedAt cX2_lookedAt 1 (some .int) :: ([.fieldLink RX2 60 "WitchTrialModel" "looked" "I", .methodLink RX2 108 yX2_isGame, .instanceMethod yX2_isGame, .selects RX2 yX2_isGame yX2_isGame, .initialized RX2, .code yX2_isGame cX2_isGame 1 (some .boolean), .fieldLink RX2 70 "WitchTrialModel" "phase" "I", .fieldLink RX2 20 "WitchTrialModel" "thrown" "I"] ++ wsX20)
def wsX2_asks : List Cond := .code yX2_asks cX2_asks 2 (some .boolean) :: ([.fieldLink RX2 70 "WitchTrialModel" "phase" "I", .fieldLink RX2 20 "WitchTrialModel" "thrown" "I", .methodLink RX2 112 yX2_isViewer, .instanceMethod yX2_isViewer, .selects RX2 yX2_isViewer yX2_isViewer, .initialized RX2, .code yX2_isViewer cX2_isViewer 2 (some .boolean), .methodLink RX2 31 yX2_isPlayer, .instanceMethod yX2_isPlayer, .selects RX2 yX2_isPlayer yX2_isPlayer, .code yX2_isPlayer cX2_isPlayer 2 (some .boolean), .fieldLink RX2 24 "WitchTrialModel" "players" "I", .methodLink RX2 27 yX2_in, .static yX2_in, .code yX2_in cX2_in 3 (some .boolean)] ++ wsX20)
def wsX2_manyFor : List Cond := .code yX2_manyFor cX2_manyFor 4 (some .int) :: ([.methodLink RX2 115 yX2_isFor, .instanceMethod yX2_isFor, .selects RX2 yX2_isFor yX2_isFor, .initialized RX2, .code yX2_isFor cX2_isFor 5 (some .boolean), .fieldLink RX2 7 "WitchTrialModel" "isOpen" "[Z", .fieldLink RX2 43 "WitchTrialModel" "witches" "I", .fieldLink RX2 60 "WitchTrialModel" "looked" "I", .methodLink RX2 52 yX2_truth, .instanceMethod yX2_truth, .selects RX2 yX2_truth yX2_truth, .code yX2_truth cX2_truth 1 (some .int), .fieldLink RX2 46 "WitchTrialModel" "seer" "I", .fieldLink RX2 49 "WitchTrialModel" "guard" "I", .methodLink RX2 56 yX2_roleIn, .static yX2_roleIn, .code yX2_roleIn cX2_roleIn 2 (some .int), .methodLink RX2 39 yX2_has, .static yX2_has, .code yX2_has cX2_has 2 (some .boolean)] ++ wsX20)
def wsX2_worlds_r1 : List Cond := [Cond.methodLink RX2 118 yX2_asks, Cond.instanceMethod yX2_asks, Cond.selects RX2 yX2_asks yX2_asks, Cond.initialized RX2, Cond.code yX2_asks cX2_asks 2 (some .boolean), Cond.fieldLink RX2 70 "WitchTrialModel" "phase" "I", Cond.fieldLink RX2 20 "WitchTrialModel" "thrown" "I", Cond.methodLink RX2 112 yX2_isViewer, Cond.instanceMethod yX2_isViewer, Cond.selects RX2 yX2_isViewer yX2_isViewer, Cond.code yX2_isViewer cX2_isViewer 2 (some .boolean), Cond.methodLink RX2 31 yX2_isPlayer, Cond.instanceMethod yX2_isPlayer, Cond.selects RX2 yX2_isPlayer yX2_isPlayer, Cond.code yX2_isPlayer cX2_isPlayer 2 (some .boolean), Cond.fieldLink RX2 24 "WitchTrialModel" "players" "I", Cond.methodLink RX2 27 yX2_in, Cond.static yX2_in, Cond.code yX2_in cX2_in 3 (some .boolean), Cond.methodLink RX2 121 yX2_manyFor, Cond.instanceMethod yX2_manyFor, Cond.selects RX2 yX2_manyFor yX2_manyFor, Cond.code yX2_manyFor cX2_manyFor 4 (some .int), Cond.methodLink RX2 115 yX2_isFor]
def wsX2_worlds_r2 : List Cond := [Cond.instanceMethod yX2_isFor, Cond.selects RX2 yX2_isFor yX2_isFor, Cond.code yX2_isFor cX2_isFor 5 (some .boolean), Cond.fieldLink RX2 7 "WitchTrialModel" "isOpen" "[Z", Cond.fieldLink RX2 43 "WitchTrialModel" "witches" "I", Cond.fieldLink RX2 60 "WitchTrialModel" "looked" "I", Cond.methodLink RX2 52 yX2_truth, Cond.instanceMethod yX2_truth, Cond.selects RX2 yX2_truth yX2_truth, Cond.code yX2_truth cX2_truth 1 (some .int), Cond.fieldLink RX2 46 "WitchTrialModel" "seer" "I", Cond.fieldLink RX2 49 "WitchTrialModel" "guard" "I", Cond.methodLink RX2 56 yX2_roleIn, Cond.static yX2_roleIn, Cond.code yX2_roleIn cX2_roleIn 2 (some .int), Cond.methodLink RX2 39 yX2_has, Cond.static yX2_has, Cond.code yX2_has cX2_has 2 (some .boolean)]
def wsX2_worlds : List Cond := .code yX2_worlds cX2_worlds 2 (some .int) :: ((wsX2_worlds_r1 ++ wsX2_worlds_r2) ++ wsX20)
def wsX2_manyWith : List Cond := .code yX2_manyWith cX2_manyWith 6 (some .int) :: ([.fieldLink RX2 7 "WitchTrialModel" "isOpen" "[Z", .methodLink RX2 56 yX2_roleIn, .static yX2_roleIn, .initialized RX2, .code yX2_roleIn cX2_roleIn 2 (some .int), .methodLink RX2 39 yX2_has, .static yX2_has, .code yX2_has cX2_has 2 (some .boolean), .methodLink RX2 115 yX2_isFor, .instanceMethod yX2_isFor, .selects RX2 yX2_isFor yX2_isFor, .code yX2_isFor cX2_isFor 5 (some .boolean), .fieldLink RX2 43 "WitchTrialModel" "witches" "I", .fieldLink RX2 60 "WitchTrialModel" "looked" "I", .methodLink RX2 52 yX2_truth, .instanceMethod yX2_truth, .selects RX2 yX2_truth yX2_truth, .code yX2_truth cX2_truth 1 (some .int), .fieldLink RX2 46 "WitchTrialModel" "seer" "I", .fieldLink RX2 49 "WitchTrialModel" "guard" "I"] ++ wsX20)
def wsX2_worldsWith_r1 : List Cond := [Cond.fieldLink RX2 70 "WitchTrialModel" "phase" "I", Cond.fieldLink RX2 20 "WitchTrialModel" "thrown" "I", Cond.methodLink RX2 112 yX2_isViewer, Cond.instanceMethod yX2_isViewer, Cond.selects RX2 yX2_isViewer yX2_isViewer, Cond.initialized RX2, Cond.code yX2_isViewer cX2_isViewer 2 (some .boolean), Cond.methodLink RX2 31 yX2_isPlayer, Cond.instanceMethod yX2_isPlayer, Cond.selects RX2 yX2_isPlayer yX2_isPlayer, Cond.code yX2_isPlayer cX2_isPlayer 2 (some .boolean), Cond.fieldLink RX2 24 "WitchTrialModel" "players" "I", Cond.methodLink RX2 27 yX2_in, Cond.static yX2_in, Cond.code yX2_in cX2_in 3 (some .boolean), Cond.methodLink RX2 124 yX2_manyWith, Cond.instanceMethod yX2_manyWith, Cond.selects RX2 yX2_manyWith yX2_manyWith, Cond.code yX2_manyWith cX2_manyWith 6 (some .int), Cond.fieldLink RX2 7 "WitchTrialModel" "isOpen" "[Z", Cond.methodLink RX2 56 yX2_roleIn, Cond.static yX2_roleIn, Cond.code yX2_roleIn cX2_roleIn 2 (some .int), Cond.methodLink RX2 39 yX2_has]
def wsX2_worldsWith_r2 : List Cond := [Cond.static yX2_has, Cond.code yX2_has cX2_has 2 (some .boolean), Cond.methodLink RX2 115 yX2_isFor, Cond.instanceMethod yX2_isFor, Cond.selects RX2 yX2_isFor yX2_isFor, Cond.code yX2_isFor cX2_isFor 5 (some .boolean), Cond.fieldLink RX2 43 "WitchTrialModel" "witches" "I", Cond.fieldLink RX2 60 "WitchTrialModel" "looked" "I", Cond.methodLink RX2 52 yX2_truth, Cond.instanceMethod yX2_truth, Cond.selects RX2 yX2_truth yX2_truth, Cond.code yX2_truth cX2_truth 1 (some .int), Cond.fieldLink RX2 46 "WitchTrialModel" "seer" "I", Cond.fieldLink RX2 49 "WitchTrialModel" "guard" "I"]
def wsX2_worldsWith : List Cond := .code yX2_worldsWith cX2_worldsWith 4 (some .int) :: ((wsX2_worldsWith_r1 ++ wsX2_worldsWith_r2) ++ wsX20)
def wsX2_inSome : List Cond := .code yX2_inSome cX2_inSome 5 (some .int) :: ([.fieldLink RX2 24 "WitchTrialModel" "players" "I", .methodLink RX2 115 yX2_isFor, .instanceMethod yX2_isFor, .selects RX2 yX2_isFor yX2_isFor, .initialized RX2, .code yX2_isFor cX2_isFor 5 (some .boolean), .fieldLink RX2 7 "WitchTrialModel" "isOpen" "[Z", .fieldLink RX2 43 "WitchTrialModel" "witches" "I", .fieldLink RX2 60 "WitchTrialModel" "looked" "I", .methodLink RX2 52 yX2_truth, .instanceMethod yX2_truth, .selects RX2 yX2_truth yX2_truth, .code yX2_truth cX2_truth 1 (some .int), .fieldLink RX2 46 "WitchTrialModel" "seer" "I", .fieldLink RX2 49 "WitchTrialModel" "guard" "I", .methodLink RX2 56 yX2_roleIn, .static yX2_roleIn, .code yX2_roleIn cX2_roleIn 2 (some .int), .methodLink RX2 39 yX2_has, .static yX2_has, .code yX2_has cX2_has 2 (some .boolean)] ++ wsX20)
def wsX2_sureWitches_r1 : List Cond := [Cond.fieldLink RX2 24 "WitchTrialModel" "players" "I", Cond.methodLink RX2 118 yX2_asks, Cond.instanceMethod yX2_asks, Cond.selects RX2 yX2_asks yX2_asks, Cond.initialized RX2, Cond.code yX2_asks cX2_asks 2 (some .boolean), Cond.fieldLink RX2 70 "WitchTrialModel" "phase" "I", Cond.fieldLink RX2 20 "WitchTrialModel" "thrown" "I", Cond.methodLink RX2 112 yX2_isViewer, Cond.instanceMethod yX2_isViewer, Cond.selects RX2 yX2_isViewer yX2_isViewer, Cond.code yX2_isViewer cX2_isViewer 2 (some .boolean), Cond.methodLink RX2 31 yX2_isPlayer, Cond.instanceMethod yX2_isPlayer, Cond.selects RX2 yX2_isPlayer yX2_isPlayer, Cond.code yX2_isPlayer cX2_isPlayer 2 (some .boolean), Cond.methodLink RX2 27 yX2_in, Cond.static yX2_in, Cond.code yX2_in cX2_in 3 (some .boolean), Cond.methodLink RX2 128 yX2_inSome, Cond.instanceMethod yX2_inSome, Cond.selects RX2 yX2_inSome yX2_inSome, Cond.code yX2_inSome cX2_inSome 5 (some .int), Cond.methodLink RX2 115 yX2_isFor]
def wsX2_sureWitches_r2 : List Cond := [Cond.instanceMethod yX2_isFor, Cond.selects RX2 yX2_isFor yX2_isFor, Cond.code yX2_isFor cX2_isFor 5 (some .boolean), Cond.fieldLink RX2 7 "WitchTrialModel" "isOpen" "[Z", Cond.fieldLink RX2 43 "WitchTrialModel" "witches" "I", Cond.fieldLink RX2 60 "WitchTrialModel" "looked" "I", Cond.methodLink RX2 52 yX2_truth, Cond.instanceMethod yX2_truth, Cond.selects RX2 yX2_truth yX2_truth, Cond.code yX2_truth cX2_truth 1 (some .int), Cond.fieldLink RX2 46 "WitchTrialModel" "seer" "I", Cond.fieldLink RX2 49 "WitchTrialModel" "guard" "I", Cond.methodLink RX2 56 yX2_roleIn, Cond.static yX2_roleIn, Cond.code yX2_roleIn cX2_roleIn 2 (some .int), Cond.methodLink RX2 39 yX2_has, Cond.static yX2_has, Cond.code yX2_has cX2_has 2 (some .boolean)]
def wsX2_sureWitches : List Cond := .code yX2_sureWitches cX2_sureWitches 2 (some .int) :: ((wsX2_sureWitches_r1 ++ wsX2_sureWitches_r2) ++ wsX20)
def wsX2_sureHonest_r1 : List Cond := [Cond.fieldLink RX2 24 "WitchTrialModel" "players" "I", Cond.methodLink RX2 118 yX2_asks, Cond.instanceMethod yX2_asks, Cond.selects RX2 yX2_asks yX2_asks, Cond.initialized RX2, Cond.code yX2_asks cX2_asks 2 (some .boolean), Cond.fieldLink RX2 70 "WitchTrialModel" "phase" "I", Cond.fieldLink RX2 20 "WitchTrialModel" "thrown" "I", Cond.methodLink RX2 112 yX2_isViewer, Cond.instanceMethod yX2_isViewer, Cond.selects RX2 yX2_isViewer yX2_isViewer, Cond.code yX2_isViewer cX2_isViewer 2 (some .boolean), Cond.methodLink RX2 31 yX2_isPlayer, Cond.instanceMethod yX2_isPlayer, Cond.selects RX2 yX2_isPlayer yX2_isPlayer, Cond.code yX2_isPlayer cX2_isPlayer 2 (some .boolean), Cond.methodLink RX2 27 yX2_in, Cond.static yX2_in, Cond.code yX2_in cX2_in 3 (some .boolean), Cond.methodLink RX2 128 yX2_inSome, Cond.instanceMethod yX2_inSome, Cond.selects RX2 yX2_inSome yX2_inSome, Cond.code yX2_inSome cX2_inSome 5 (some .int), Cond.methodLink RX2 115 yX2_isFor]
def wsX2_sureHonest_r2 : List Cond := [Cond.instanceMethod yX2_isFor, Cond.selects RX2 yX2_isFor yX2_isFor, Cond.code yX2_isFor cX2_isFor 5 (some .boolean), Cond.fieldLink RX2 7 "WitchTrialModel" "isOpen" "[Z", Cond.fieldLink RX2 43 "WitchTrialModel" "witches" "I", Cond.fieldLink RX2 60 "WitchTrialModel" "looked" "I", Cond.methodLink RX2 52 yX2_truth, Cond.instanceMethod yX2_truth, Cond.selects RX2 yX2_truth yX2_truth, Cond.code yX2_truth cX2_truth 1 (some .int), Cond.fieldLink RX2 46 "WitchTrialModel" "seer" "I", Cond.fieldLink RX2 49 "WitchTrialModel" "guard" "I", Cond.methodLink RX2 56 yX2_roleIn, Cond.static yX2_roleIn, Cond.code yX2_roleIn cX2_roleIn 2 (some .int), Cond.methodLink RX2 39 yX2_has, Cond.static yX2_has, Cond.code yX2_has cX2_has 2 (some .boolean)]
def wsX2_sureHonest : List Cond := .code yX2_sureHonest cX2_sureHonest 2 (some .int) :: ((wsX2_sureHonest_r1 ++ wsX2_sureHonest_r2) ++ wsX20)
def wsX2_witchSets_r1 : List Cond := [Cond.methodLink RX2 118 yX2_asks, Cond.instanceMethod yX2_asks, Cond.selects RX2 yX2_asks yX2_asks, Cond.initialized RX2, Cond.code yX2_asks cX2_asks 2 (some .boolean), Cond.fieldLink RX2 70 "WitchTrialModel" "phase" "I", Cond.fieldLink RX2 20 "WitchTrialModel" "thrown" "I", Cond.methodLink RX2 112 yX2_isViewer, Cond.instanceMethod yX2_isViewer, Cond.selects RX2 yX2_isViewer yX2_isViewer, Cond.code yX2_isViewer cX2_isViewer 2 (some .boolean), Cond.methodLink RX2 31 yX2_isPlayer, Cond.instanceMethod yX2_isPlayer, Cond.selects RX2 yX2_isPlayer yX2_isPlayer, Cond.code yX2_isPlayer cX2_isPlayer 2 (some .boolean), Cond.fieldLink RX2 24 "WitchTrialModel" "players" "I", Cond.methodLink RX2 27 yX2_in, Cond.static yX2_in, Cond.code yX2_in cX2_in 3 (some .boolean), Cond.methodLink RX2 115 yX2_isFor, Cond.instanceMethod yX2_isFor, Cond.selects RX2 yX2_isFor yX2_isFor, Cond.code yX2_isFor cX2_isFor 5 (some .boolean), Cond.fieldLink RX2 7 "WitchTrialModel" "isOpen" "[Z"]
def wsX2_witchSets_r2 : List Cond := [Cond.fieldLink RX2 43 "WitchTrialModel" "witches" "I", Cond.fieldLink RX2 60 "WitchTrialModel" "looked" "I", Cond.methodLink RX2 52 yX2_truth, Cond.instanceMethod yX2_truth, Cond.selects RX2 yX2_truth yX2_truth, Cond.code yX2_truth cX2_truth 1 (some .int), Cond.fieldLink RX2 46 "WitchTrialModel" "seer" "I", Cond.fieldLink RX2 49 "WitchTrialModel" "guard" "I", Cond.methodLink RX2 56 yX2_roleIn, Cond.static yX2_roleIn, Cond.code yX2_roleIn cX2_roleIn 2 (some .int), Cond.methodLink RX2 39 yX2_has, Cond.static yX2_has, Cond.code yX2_has cX2_has 2 (some .boolean)]
def wsX2_witchSets : List Cond := .code yX2_witchSets cX2_witchSets 6 (some .int) :: ((wsX2_witchSets_r1 ++ wsX2_witchSets_r2) ++ wsX20)
def wsX2_laysWitches_r1 : List Cond := [Cond.fieldLink RX2 24 "WitchTrialModel" "players" "I", Cond.fieldLink RX2 17 "WitchTrialModel" "many" "[I", Cond.methodLink RX2 124 yX2_manyWith, Cond.instanceMethod yX2_manyWith, Cond.selects RX2 yX2_manyWith yX2_manyWith, Cond.initialized RX2, Cond.code yX2_manyWith cX2_manyWith 6 (some .int), Cond.fieldLink RX2 7 "WitchTrialModel" "isOpen" "[Z", Cond.methodLink RX2 56 yX2_roleIn, Cond.static yX2_roleIn, Cond.code yX2_roleIn cX2_roleIn 2 (some .int), Cond.methodLink RX2 39 yX2_has, Cond.static yX2_has, Cond.code yX2_has cX2_has 2 (some .boolean), Cond.methodLink RX2 115 yX2_isFor, Cond.instanceMethod yX2_isFor, Cond.selects RX2 yX2_isFor yX2_isFor, Cond.code yX2_isFor cX2_isFor 5 (some .boolean), Cond.fieldLink RX2 43 "WitchTrialModel" "witches" "I", Cond.fieldLink RX2 60 "WitchTrialModel" "looked" "I", Cond.methodLink RX2 52 yX2_truth, Cond.instanceMethod yX2_truth, Cond.selects RX2 yX2_truth yX2_truth, Cond.code yX2_truth cX2_truth 1 (some .int)]
def wsX2_laysWitches_r2 : List Cond := [Cond.fieldLink RX2 46 "WitchTrialModel" "seer" "I", Cond.fieldLink RX2 49 "WitchTrialModel" "guard" "I"]
def wsX2_laysWitches : List Cond := .code yX2_laysWitches cX2_laysWitches 3 none :: ((wsX2_laysWitches_r1 ++ wsX2_laysWitches_r2) ++ wsX20)
def wsX2_suspect_r1 : List Cond := [Cond.fieldLink RX2 24 "WitchTrialModel" "players" "I", Cond.fieldLink RX2 67 "WitchTrialModel" "alive" "I", Cond.fieldLink RX2 17 "WitchTrialModel" "many" "[I", Cond.methodLink RX2 118 yX2_asks, Cond.instanceMethod yX2_asks, Cond.selects RX2 yX2_asks yX2_asks, Cond.initialized RX2, Cond.code yX2_asks cX2_asks 2 (some .boolean), Cond.fieldLink RX2 70 "WitchTrialModel" "phase" "I", Cond.fieldLink RX2 20 "WitchTrialModel" "thrown" "I", Cond.methodLink RX2 112 yX2_isViewer, Cond.instanceMethod yX2_isViewer, Cond.selects RX2 yX2_isViewer yX2_isViewer, Cond.code yX2_isViewer cX2_isViewer 2 (some .boolean), Cond.methodLink RX2 31 yX2_isPlayer, Cond.instanceMethod yX2_isPlayer, Cond.selects RX2 yX2_isPlayer yX2_isPlayer, Cond.code yX2_isPlayer cX2_isPlayer 2 (some .boolean), Cond.methodLink RX2 27 yX2_in, Cond.static yX2_in, Cond.code yX2_in cX2_in 3 (some .boolean), Cond.methodLink RX2 132 yX2_laysWitches, Cond.instanceMethod yX2_laysWitches, Cond.selects RX2 yX2_laysWitches yX2_laysWitches]
def wsX2_suspect_r2 : List Cond := [Cond.code yX2_laysWitches cX2_laysWitches 3 none, Cond.methodLink RX2 124 yX2_manyWith, Cond.instanceMethod yX2_manyWith, Cond.selects RX2 yX2_manyWith yX2_manyWith, Cond.code yX2_manyWith cX2_manyWith 6 (some .int), Cond.fieldLink RX2 7 "WitchTrialModel" "isOpen" "[Z", Cond.methodLink RX2 56 yX2_roleIn, Cond.static yX2_roleIn, Cond.code yX2_roleIn cX2_roleIn 2 (some .int), Cond.methodLink RX2 39 yX2_has, Cond.static yX2_has, Cond.code yX2_has cX2_has 2 (some .boolean), Cond.methodLink RX2 115 yX2_isFor, Cond.instanceMethod yX2_isFor, Cond.selects RX2 yX2_isFor yX2_isFor, Cond.code yX2_isFor cX2_isFor 5 (some .boolean), Cond.fieldLink RX2 43 "WitchTrialModel" "witches" "I", Cond.fieldLink RX2 60 "WitchTrialModel" "looked" "I", Cond.methodLink RX2 52 yX2_truth, Cond.instanceMethod yX2_truth, Cond.selects RX2 yX2_truth yX2_truth, Cond.code yX2_truth cX2_truth 1 (some .int), Cond.fieldLink RX2 46 "WitchTrialModel" "seer" "I", Cond.fieldLink RX2 49 "WitchTrialModel" "guard" "I"]
def wsX2_suspect : List Cond := .code yX2_suspect cX2_suspect 4 (some .int) :: ((wsX2_suspect_r1 ++ wsX2_suspect_r2) ++ wsX20)
def wsX2_bestLook_r1 : List Cond := [Cond.fieldLink RX2 46 "WitchTrialModel" "seer" "I", Cond.fieldLink RX2 24 "WitchTrialModel" "players" "I", Cond.fieldLink RX2 17 "WitchTrialModel" "many" "[I", Cond.fieldLink RX2 67 "WitchTrialModel" "alive" "I", Cond.methodLink RX2 108 yX2_isGame, Cond.instanceMethod yX2_isGame, Cond.selects RX2 yX2_isGame yX2_isGame, Cond.initialized RX2, Cond.code yX2_isGame cX2_isGame 1 (some .boolean), Cond.fieldLink RX2 70 "WitchTrialModel" "phase" "I", Cond.fieldLink RX2 20 "WitchTrialModel" "thrown" "I", Cond.methodLink RX2 132 yX2_laysWitches, Cond.instanceMethod yX2_laysWitches, Cond.selects RX2 yX2_laysWitches yX2_laysWitches, Cond.code yX2_laysWitches cX2_laysWitches 3 none, Cond.methodLink RX2 124 yX2_manyWith, Cond.instanceMethod yX2_manyWith, Cond.selects RX2 yX2_manyWith yX2_manyWith, Cond.code yX2_manyWith cX2_manyWith 6 (some .int), Cond.fieldLink RX2 7 "WitchTrialModel" "isOpen" "[Z", Cond.methodLink RX2 56 yX2_roleIn, Cond.static yX2_roleIn, Cond.code yX2_roleIn cX2_roleIn 2 (some .int), Cond.methodLink RX2 39 yX2_has]
def wsX2_bestLook_r2 : List Cond := [Cond.static yX2_has, Cond.code yX2_has cX2_has 2 (some .boolean), Cond.methodLink RX2 115 yX2_isFor, Cond.instanceMethod yX2_isFor, Cond.selects RX2 yX2_isFor yX2_isFor, Cond.code yX2_isFor cX2_isFor 5 (some .boolean), Cond.fieldLink RX2 43 "WitchTrialModel" "witches" "I", Cond.fieldLink RX2 60 "WitchTrialModel" "looked" "I", Cond.methodLink RX2 52 yX2_truth, Cond.instanceMethod yX2_truth, Cond.selects RX2 yX2_truth yX2_truth, Cond.code yX2_truth cX2_truth 1 (some .int), Cond.fieldLink RX2 49 "WitchTrialModel" "guard" "I", Cond.methodLink RX2 121 yX2_manyFor, Cond.instanceMethod yX2_manyFor, Cond.selects RX2 yX2_manyFor yX2_manyFor, Cond.code yX2_manyFor cX2_manyFor 4 (some .int)]
def wsX2_bestLook : List Cond := .code yX2_bestLook cX2_bestLook 6 (some .int) :: ((wsX2_bestLook_r1 ++ wsX2_bestLook_r2) ++ wsX20)
def wsX2_isPossible_r1 : List Cond := [Cond.fieldLink RX2 70 "WitchTrialModel" "phase" "I", Cond.fieldLink RX2 20 "WitchTrialModel" "thrown" "I", Cond.fieldLink RX2 24 "WitchTrialModel" "players" "I", Cond.methodLink RX2 112 yX2_isViewer, Cond.instanceMethod yX2_isViewer, Cond.selects RX2 yX2_isViewer yX2_isViewer, Cond.initialized RX2, Cond.code yX2_isViewer cX2_isViewer 2 (some .boolean), Cond.methodLink RX2 31 yX2_isPlayer, Cond.instanceMethod yX2_isPlayer, Cond.selects RX2 yX2_isPlayer yX2_isPlayer, Cond.code yX2_isPlayer cX2_isPlayer 2 (some .boolean), Cond.methodLink RX2 27 yX2_in, Cond.static yX2_in, Cond.code yX2_in cX2_in 3 (some .boolean), Cond.methodLink RX2 115 yX2_isFor, Cond.instanceMethod yX2_isFor, Cond.selects RX2 yX2_isFor yX2_isFor, Cond.code yX2_isFor cX2_isFor 5 (some .boolean), Cond.fieldLink RX2 7 "WitchTrialModel" "isOpen" "[Z", Cond.fieldLink RX2 43 "WitchTrialModel" "witches" "I", Cond.fieldLink RX2 60 "WitchTrialModel" "looked" "I", Cond.methodLink RX2 52 yX2_truth, Cond.instanceMethod yX2_truth]
def wsX2_isPossible_r2 : List Cond := [Cond.selects RX2 yX2_truth yX2_truth, Cond.code yX2_truth cX2_truth 1 (some .int), Cond.fieldLink RX2 46 "WitchTrialModel" "seer" "I", Cond.fieldLink RX2 49 "WitchTrialModel" "guard" "I", Cond.methodLink RX2 56 yX2_roleIn, Cond.static yX2_roleIn, Cond.code yX2_roleIn cX2_roleIn 2 (some .int), Cond.methodLink RX2 39 yX2_has, Cond.static yX2_has, Cond.code yX2_has cX2_has 2 (some .boolean)]
def wsX2_isPossible : List Cond := .code yX2_isPossible cX2_isPossible 6 (some .boolean) :: ((wsX2_isPossible_r1 ++ wsX2_isPossible_r2) ++ wsX20)
def wsJ9_max_7cf53 : List Cond := .code yJ9_max_7cf53 cJ9_max_7cf53 2 (some .int) :: ([])
def wsL_start_r1 : List Cond := [Cond.classLink RL 13 "java/lang/IllegalArgumentException", Cond.methodLink RL 7 yX1_start, Cond.instanceMethod yX1_start, Cond.selects RX1 yX1_start yX1_start, Cond.initialized RX1, Cond.code yX1_start cX1_start 5 (some .int), Cond.classLink RX1 40 "java/lang/IllegalArgumentException", Cond.initialized "java/lang/IllegalArgumentException", Cond.fieldLink RX1 47 "WitchTrial" "playerCount" "I", Cond.fieldLink RX1 50 "WitchTrial" "witchSet" "I", Cond.fieldLink RX1 53 "WitchTrial" "seerPlayer" "I", Cond.fieldLink RX1 56 "WitchTrial" "guardPlayer" "I", Cond.fieldLink RX1 63 "WitchTrial" "aliveSet" "I", Cond.fieldLink RX1 66 "WitchTrial" "lookedAtSet" "I", Cond.fieldLink RX1 69 "WitchTrial" "dayNumber" "I", Cond.fieldLink RX1 20 "WitchTrial" "phase" "I", Cond.fieldLink RX1 33 "WitchTrial" "protectedLastNight" "I", Cond.fieldLink RX1 12 "WitchTrial" "book" "LWitchTrial$Book;", Cond.methodLink RX1 36 yX1_isDeal, Cond.static yX1_isDeal, Cond.code yX1_isDeal cX1_isDeal 4 (some .boolean), Cond.methodLink RX1 59 yX1_everyone, Cond.static yX1_everyone, Cond.code yX1_everyone cX1_everyone 1 (some .int)]
def wsL_start_r2 : List Cond := [Cond.methodLink RX1 185 yJ6_bitCount_0f7a4, Cond.static yJ6_bitCount_0f7a4, Cond.initialized RJ6, Cond.code yJ6_bitCount_0f7a4 cJ6_bitCount_0f7a4 1 (some .int), Cond.constant RJ6 265 (1431655765), Cond.constant RJ6 266 (858993459), Cond.constant RJ6 267 (252645135), Cond.methodLink RX1 190 yX1_isHonestIn, Cond.static yX1_isHonestIn, Cond.code yX1_isHonestIn cX1_isHonestIn 3 (some .boolean), Cond.methodLink RX1 194 yX1_setOf, Cond.static yX1_setOf, Cond.code yX1_setOf cX1_setOf 1 (some .int), Cond.methodLink RX1 72 yX1_forgetVotes, Cond.instanceMethod yX1_forgetVotes, Cond.selects RX1 yX1_forgetVotes yX1_forgetVotes, Cond.code yX1_forgetVotes cX1_forgetVotes 1 none, Cond.fieldLink RX1 16 "WitchTrial" "voteOf" "[I", Cond.methodLink RX1 210 yJ7_fill_53178, Cond.static yJ7_fill_53178, Cond.initialized RJ7, Cond.code yJ7_fill_53178 cJ7_fill_53178 4 none, Cond.methodLink RX1 75 yX1_forgetChoices, Cond.instanceMethod yX1_forgetChoices]
def wsL_start_r3 : List Cond := [Cond.selects RX1 yX1_forgetChoices yX1_forgetChoices, Cond.code yX1_forgetChoices cX1_forgetChoices 1 none, Cond.fieldLink RX1 24 "WitchTrial" "protectChoice" "I", Cond.fieldLink RX1 27 "WitchTrial" "attackChoice" "I", Cond.fieldLink RX1 30 "WitchTrial" "lookChoice" "I", Cond.methodLink RX1 78 yX1_worldOf, Cond.static yX1_worldOf, Cond.code yX1_worldOf cX1_worldOf 3 (some .int), Cond.instanceMethod yX0_open, Cond.initialized RX0, Cond.selects RX0 yX0_open yX0_open, Cond.code yX0_open cX0_open 6 none, Cond.fieldLink RX0 15 "WitchTrial$Book" "truth" "I", Cond.fieldLink RX0 11 "WitchTrial$Book" "pages" "[I", Cond.methodLink RX0 19 yJ7_fill_53178, Cond.static yX1_witchesOf, Cond.code yX1_witchesOf cX1_witchesOf 1 (some .int), Cond.methodLink RX0 29 yJ6_bitCount_0f7a4, Cond.methodLink RX0 37 yX0_addWorlds, Cond.instanceMethod yX0_addWorlds, Cond.selects RX0 yX0_addWorlds yX0_addWorlds, Cond.code yX0_addWorlds cX0_addWorlds 8 (some .int), Cond.methodLink RX1 86 yX1_knownBits, Cond.instanceMethod yX1_knownBits]
def wsL_start_r4 : List Cond := [Cond.selects RX1 yX1_knownBits yX1_knownBits, Cond.code yX1_knownBits cX1_knownBits 3 (some .int), Cond.methodLink RX1 219 yX1_roleBits, Cond.static yX1_roleBits, Cond.code yX1_roleBits cX1_roleBits 1 (some .int), Cond.methodLink RX1 135 yX1_isWitch, Cond.instanceMethod yX1_isWitch, Cond.selects RX1 yX1_isWitch yX1_isWitch, Cond.code yX1_isWitch cX1_isWitch 2 (some .boolean), Cond.instanceMethod yX0_count, Cond.selects RX0 yX0_count yX0_count, Cond.code yX0_count cX0_count 4 (some .int), Cond.methodLink RX0 55 yX0_agrees, Cond.instanceMethod yX0_agrees, Cond.selects RX0 yX0_agrees yX0_agrees, Cond.code yX0_agrees cX0_agrees 3 (some .boolean)]
def wsL_start : List Cond := .codeWith yL_start cL_start 7 (some .int) [(0, 14, 17, 13)] :: ((wsL_start_r1 ++ (wsL_start_r2 ++ (wsL_start_r3 ++ wsL_start_r4))) ++ wsX10 ++ wsX00 ++ (vx_atS RX1 44 "java/lang/IllegalArgumentException" ["java/lang/RuntimeException", "java/lang/Exception"]).filter goodWord)
def wsL_claim_r1 : List Cond := [Cond.classLink RL 19 "java/lang/IllegalStateException", Cond.classLink RL 21 "java/lang/IndexOutOfBoundsException", Cond.classLink RL 13 "java/lang/IllegalArgumentException", Cond.classLink RL 23 "java/util/NoSuchElementException", Cond.methodLink RL 15 yX1_claim, Cond.instanceMethod yX1_claim, Cond.selects RX1 yX1_claim yX1_claim, Cond.initialized RX1, Cond.code yX1_claim cX1_claim 4 (some .int), Cond.classLink RX1 40 "java/lang/IllegalArgumentException", Cond.initialized "java/lang/IllegalArgumentException", Cond.methodLink RX1 92 yX1_requireGame, Cond.instanceMethod yX1_requireGame, Cond.selects RX1 yX1_requireGame yX1_requireGame, Cond.code yX1_requireGame cX1_requireGame 1 none, Cond.classLink RX1 171 "java/lang/IllegalStateException", Cond.initialized "java/lang/IllegalStateException", Cond.fieldLink RX1 20 "WitchTrial" "phase" "I", Cond.methodLink RX1 95 yX1_requirePlayer, Cond.instanceMethod yX1_requirePlayer, Cond.selects RX1 yX1_requirePlayer yX1_requirePlayer, Cond.code yX1_requirePlayer cX1_requirePlayer 2 none, Cond.classLink RX1 180 "java/lang/IndexOutOfBoundsException", Cond.initialized "java/lang/IndexOutOfBoundsException"]
def wsL_claim_r2 : List Cond := [Cond.fieldLink RX1 47 "WitchTrial" "playerCount" "I", Cond.methodLink RX1 101 yX1_claimedBits, Cond.static yX1_claimedBits, Cond.code yX1_claimedBits cX1_claimedBits 2 (some .int), Cond.methodLink RX1 216 yX1_bitOfRole, Cond.static yX1_bitOfRole, Cond.code yX1_bitOfRole cX1_bitOfRole 2 (some .int), Cond.methodLink RX1 194 yX1_setOf, Cond.static yX1_setOf, Cond.code yX1_setOf cX1_setOf 1 (some .int), Cond.methodLink RX1 105 yX1_makeClaim, Cond.instanceMethod yX1_makeClaim, Cond.selects RX1 yX1_makeClaim yX1_makeClaim, Cond.code yX1_makeClaim cX1_makeClaim 4 (some .int), Cond.classLink RX1 201 "java/util/NoSuchElementException", Cond.initialized "java/util/NoSuchElementException", Cond.fieldLink RX1 12 "WitchTrial" "book" "LWitchTrial$Book;", Cond.methodLink RX1 114 yX1_isAlive, Cond.instanceMethod yX1_isAlive, Cond.selects RX1 yX1_isAlive yX1_isAlive, Cond.code yX1_isAlive cX1_isAlive 2 (some .boolean), Cond.fieldLink RX1 63 "WitchTrial" "aliveSet" "I", Cond.instanceMethod yX0_allowsClaim, Cond.initialized RX0]
def wsL_claim_r3 : List Cond := [Cond.selects RX0 yX0_allowsClaim yX0_allowsClaim, Cond.code yX0_allowsClaim cX0_allowsClaim 4 (some .boolean), Cond.fieldLink RX0 15 "WitchTrial$Book" "truth" "I", Cond.methodLink RX0 51 yX0_agreesWithClaim, Cond.static yX0_agreesWithClaim, Cond.code yX0_agreesWithClaim cX0_agreesWithClaim 4 (some .boolean), Cond.instanceMethod yX0_keepClaim, Cond.selects RX0 yX0_keepClaim yX0_keepClaim, Cond.code yX0_keepClaim cX0_keepClaim 7 none, Cond.fieldLink RX0 11 "WitchTrial$Book" "pages" "[I", Cond.methodLink RX1 86 yX1_knownBits, Cond.instanceMethod yX1_knownBits, Cond.selects RX1 yX1_knownBits yX1_knownBits, Cond.code yX1_knownBits cX1_knownBits 3 (some .int), Cond.fieldLink RX1 53 "WitchTrial" "seerPlayer" "I", Cond.fieldLink RX1 66 "WitchTrial" "lookedAtSet" "I", Cond.methodLink RX1 59 yX1_everyone, Cond.static yX1_everyone, Cond.code yX1_everyone cX1_everyone 1 (some .int), Cond.methodLink RX1 219 yX1_roleBits, Cond.static yX1_roleBits, Cond.code yX1_roleBits cX1_roleBits 1 (some .int), Cond.methodLink RX1 135 yX1_isWitch, Cond.instanceMethod yX1_isWitch]
def wsL_claim_r4 : List Cond := [Cond.selects RX1 yX1_isWitch yX1_isWitch, Cond.code yX1_isWitch cX1_isWitch 2 (some .boolean), Cond.fieldLink RX1 50 "WitchTrial" "witchSet" "I", Cond.instanceMethod yX0_count, Cond.selects RX0 yX0_count yX0_count, Cond.code yX0_count cX0_count 4 (some .int), Cond.methodLink RX0 55 yX0_agrees, Cond.instanceMethod yX0_agrees, Cond.selects RX0 yX0_agrees yX0_agrees, Cond.code yX0_agrees cX0_agrees 3 (some .boolean)]
def wsL_claim : List Cond := .codeWith yL_claim cL_claim 6 (some .int) [(0, 12, 15, 19), (0, 12, 19, 21), (0, 12, 23, 13), (0, 12, 27, 23)] :: ((wsL_claim_r1 ++ (wsL_claim_r2 ++ (wsL_claim_r3 ++ wsL_claim_r4))) ++ wsX10 ++ wsX00 ++ (vx_atS RX1 44 "java/lang/IllegalArgumentException" ["java/lang/RuntimeException", "java/lang/Exception"]).filter goodWord ++ (vx_atS RX1 175 "java/lang/IllegalStateException" ["java/lang/RuntimeException", "java/lang/Exception"]).filter goodWord ++ (vx_atS RX1 184 "java/lang/IndexOutOfBoundsException" ["java/lang/RuntimeException", "java/lang/Exception"]).filter goodWord ++ (vx_atS RX1 205 "java/util/NoSuchElementException" ["java/lang/RuntimeException", "java/lang/Exception"]).filter goodWord)
def wsL_claimAmong_r1 : List Cond := [Cond.classLink RL 19 "java/lang/IllegalStateException", Cond.classLink RL 21 "java/lang/IndexOutOfBoundsException", Cond.classLink RL 13 "java/lang/IllegalArgumentException", Cond.classLink RL 23 "java/util/NoSuchElementException", Cond.methodLink RL 25 yX1_claimAmong, Cond.instanceMethod yX1_claimAmong, Cond.selects RX1 yX1_claimAmong yX1_claimAmong, Cond.initialized RX1, Cond.code yX1_claimAmong cX1_claimAmong 3 (some .int), Cond.classLink RX1 40 "java/lang/IllegalArgumentException", Cond.initialized "java/lang/IllegalArgumentException", Cond.fieldLink RX1 47 "WitchTrial" "playerCount" "I", Cond.methodLink RX1 92 yX1_requireGame, Cond.instanceMethod yX1_requireGame, Cond.selects RX1 yX1_requireGame yX1_requireGame, Cond.code yX1_requireGame cX1_requireGame 1 none, Cond.classLink RX1 171 "java/lang/IllegalStateException", Cond.initialized "java/lang/IllegalStateException", Cond.fieldLink RX1 20 "WitchTrial" "phase" "I", Cond.methodLink RX1 95 yX1_requirePlayer, Cond.instanceMethod yX1_requirePlayer, Cond.selects RX1 yX1_requirePlayer yX1_requirePlayer, Cond.code yX1_requirePlayer cX1_requirePlayer 2 none, Cond.classLink RX1 180 "java/lang/IndexOutOfBoundsException"]
def wsL_claimAmong_r2 : List Cond := [Cond.initialized "java/lang/IndexOutOfBoundsException", Cond.methodLink RX1 59 yX1_everyone, Cond.static yX1_everyone, Cond.code yX1_everyone cX1_everyone 1 (some .int), Cond.methodLink RX1 105 yX1_makeClaim, Cond.instanceMethod yX1_makeClaim, Cond.selects RX1 yX1_makeClaim yX1_makeClaim, Cond.code yX1_makeClaim cX1_makeClaim 4 (some .int), Cond.classLink RX1 201 "java/util/NoSuchElementException", Cond.initialized "java/util/NoSuchElementException", Cond.fieldLink RX1 12 "WitchTrial" "book" "LWitchTrial$Book;", Cond.methodLink RX1 114 yX1_isAlive, Cond.instanceMethod yX1_isAlive, Cond.selects RX1 yX1_isAlive yX1_isAlive, Cond.code yX1_isAlive cX1_isAlive 2 (some .boolean), Cond.fieldLink RX1 63 "WitchTrial" "aliveSet" "I", Cond.methodLink RX1 194 yX1_setOf, Cond.static yX1_setOf, Cond.code yX1_setOf cX1_setOf 1 (some .int), Cond.instanceMethod yX0_allowsClaim, Cond.initialized RX0, Cond.selects RX0 yX0_allowsClaim yX0_allowsClaim, Cond.code yX0_allowsClaim cX0_allowsClaim 4 (some .boolean), Cond.fieldLink RX0 15 "WitchTrial$Book" "truth" "I"]
def wsL_claimAmong_r3 : List Cond := [Cond.methodLink RX0 51 yX0_agreesWithClaim, Cond.static yX0_agreesWithClaim, Cond.code yX0_agreesWithClaim cX0_agreesWithClaim 4 (some .boolean), Cond.instanceMethod yX0_keepClaim, Cond.selects RX0 yX0_keepClaim yX0_keepClaim, Cond.code yX0_keepClaim cX0_keepClaim 7 none, Cond.fieldLink RX0 11 "WitchTrial$Book" "pages" "[I", Cond.methodLink RX1 86 yX1_knownBits, Cond.instanceMethod yX1_knownBits, Cond.selects RX1 yX1_knownBits yX1_knownBits, Cond.code yX1_knownBits cX1_knownBits 3 (some .int), Cond.fieldLink RX1 53 "WitchTrial" "seerPlayer" "I", Cond.fieldLink RX1 66 "WitchTrial" "lookedAtSet" "I", Cond.methodLink RX1 219 yX1_roleBits, Cond.static yX1_roleBits, Cond.code yX1_roleBits cX1_roleBits 1 (some .int), Cond.methodLink RX1 135 yX1_isWitch, Cond.instanceMethod yX1_isWitch, Cond.selects RX1 yX1_isWitch yX1_isWitch, Cond.code yX1_isWitch cX1_isWitch 2 (some .boolean), Cond.fieldLink RX1 50 "WitchTrial" "witchSet" "I", Cond.instanceMethod yX0_count, Cond.selects RX0 yX0_count yX0_count, Cond.code yX0_count cX0_count 4 (some .int)]
def wsL_claimAmong_r4 : List Cond := [Cond.methodLink RX0 55 yX0_agrees, Cond.instanceMethod yX0_agrees, Cond.selects RX0 yX0_agrees yX0_agrees, Cond.code yX0_agrees cX0_agrees 3 (some .boolean)]
def wsL_claimAmong : List Cond := .codeWith yL_claimAmong cL_claimAmong 5 (some .int) [(0, 10, 13, 19), (0, 10, 17, 21), (0, 10, 21, 13), (0, 10, 25, 23)] :: ((wsL_claimAmong_r1 ++ (wsL_claimAmong_r2 ++ (wsL_claimAmong_r3 ++ wsL_claimAmong_r4))) ++ wsX10 ++ wsX00 ++ (vx_atS RX1 44 "java/lang/IllegalArgumentException" ["java/lang/RuntimeException", "java/lang/Exception"]).filter goodWord ++ (vx_atS RX1 175 "java/lang/IllegalStateException" ["java/lang/RuntimeException", "java/lang/Exception"]).filter goodWord ++ (vx_atS RX1 184 "java/lang/IndexOutOfBoundsException" ["java/lang/RuntimeException", "java/lang/Exception"]).filter goodWord ++ (vx_atS RX1 205 "java/util/NoSuchElementException" ["java/lang/RuntimeException", "java/lang/Exception"]).filter goodWord)
def wsL_vote_r1 : List Cond := [Cond.classLink RL 19 "java/lang/IllegalStateException", Cond.classLink RL 21 "java/lang/IndexOutOfBoundsException", Cond.classLink RL 13 "java/lang/IllegalArgumentException", Cond.methodLink RL 29 yX1_vote, Cond.instanceMethod yX1_vote, Cond.selects RX1 yX1_vote yX1_vote, Cond.initialized RX1, Cond.code yX1_vote cX1_vote 3 (some .int), Cond.classLink RX1 40 "java/lang/IllegalArgumentException", Cond.initialized "java/lang/IllegalArgumentException", Cond.fieldLink RX1 16 "WitchTrial" "voteOf" "[I", Cond.methodLink RX1 111 yX1_requirePhase, Cond.instanceMethod yX1_requirePhase, Cond.selects RX1 yX1_requirePhase yX1_requirePhase, Cond.code yX1_requirePhase cX1_requirePhase 2 none, Cond.classLink RX1 171 "java/lang/IllegalStateException", Cond.initialized "java/lang/IllegalStateException", Cond.fieldLink RX1 20 "WitchTrial" "phase" "I", Cond.methodLink RX1 95 yX1_requirePlayer, Cond.instanceMethod yX1_requirePlayer, Cond.selects RX1 yX1_requirePlayer yX1_requirePlayer, Cond.code yX1_requirePlayer cX1_requirePlayer 2 none, Cond.classLink RX1 180 "java/lang/IndexOutOfBoundsException", Cond.initialized "java/lang/IndexOutOfBoundsException"]
def wsL_vote_r2 : List Cond := [Cond.fieldLink RX1 47 "WitchTrial" "playerCount" "I", Cond.methodLink RX1 114 yX1_isAlive, Cond.instanceMethod yX1_isAlive, Cond.selects RX1 yX1_isAlive yX1_isAlive, Cond.code yX1_isAlive cX1_isAlive 2 (some .boolean), Cond.fieldLink RX1 63 "WitchTrial" "aliveSet" "I", Cond.methodLink RX1 194 yX1_setOf, Cond.static yX1_setOf, Cond.code yX1_setOf cX1_setOf 1 (some .int), Cond.methodLink RX1 120 yX1_countVotes, Cond.instanceMethod yX1_countVotes, Cond.selects RX1 yX1_countVotes yX1_countVotes, Cond.code yX1_countVotes cX1_countVotes 7 (some .int)]
def wsL_vote : List Cond := .codeWith yL_vote cL_vote 5 (some .int) [(0, 10, 13, 19), (0, 10, 17, 21), (0, 10, 21, 13)] :: ((wsL_vote_r1 ++ wsL_vote_r2) ++ wsX10 ++ (vx_atS RX1 44 "java/lang/IllegalArgumentException" ["java/lang/RuntimeException", "java/lang/Exception"]).filter goodWord ++ (vx_atS RX1 175 "java/lang/IllegalStateException" ["java/lang/RuntimeException", "java/lang/Exception"]).filter goodWord ++ (vx_atS RX1 184 "java/lang/IndexOutOfBoundsException" ["java/lang/RuntimeException", "java/lang/Exception"]).filter goodWord)
def wsL_closeVote_r1 : List Cond := [Cond.classLink RL 19 "java/lang/IllegalStateException", Cond.methodLink RL 32 yX1_closeVote, Cond.instanceMethod yX1_closeVote, Cond.selects RX1 yX1_closeVote yX1_closeVote, Cond.initialized RX1, Cond.code yX1_closeVote cX1_closeVote 2 (some .int), Cond.fieldLink RX1 20 "WitchTrial" "phase" "I", Cond.methodLink RX1 111 yX1_requirePhase, Cond.instanceMethod yX1_requirePhase, Cond.selects RX1 yX1_requirePhase yX1_requirePhase, Cond.code yX1_requirePhase cX1_requirePhase 2 none, Cond.classLink RX1 171 "java/lang/IllegalStateException", Cond.initialized "java/lang/IllegalStateException", Cond.methodLink RX1 123 yX1_playerWithMostVotes, Cond.instanceMethod yX1_playerWithMostVotes, Cond.selects RX1 yX1_playerWithMostVotes yX1_playerWithMostVotes, Cond.code yX1_playerWithMostVotes cX1_playerWithMostVotes 5 (some .int), Cond.fieldLink RX1 47 "WitchTrial" "playerCount" "I", Cond.methodLink RX1 120 yX1_countVotes, Cond.instanceMethod yX1_countVotes, Cond.selects RX1 yX1_countVotes yX1_countVotes, Cond.code yX1_countVotes cX1_countVotes 7 (some .int), Cond.fieldLink RX1 16 "WitchTrial" "voteOf" "[I", Cond.methodLink RX1 72 yX1_forgetVotes]
def wsL_closeVote_r2 : List Cond := [Cond.instanceMethod yX1_forgetVotes, Cond.selects RX1 yX1_forgetVotes yX1_forgetVotes, Cond.code yX1_forgetVotes cX1_forgetVotes 1 none, Cond.methodLink RX1 210 yJ7_fill_53178, Cond.static yJ7_fill_53178, Cond.initialized RJ7, Cond.code yJ7_fill_53178 cJ7_fill_53178 4 none, Cond.methodLink RX1 127 yX1_die, Cond.instanceMethod yX1_die, Cond.selects RX1 yX1_die yX1_die, Cond.code yX1_die cX1_die 4 none, Cond.fieldLink RX1 63 "WitchTrial" "aliveSet" "I", Cond.fieldLink RX1 50 "WitchTrial" "witchSet" "I", Cond.methodLink RX1 194 yX1_setOf, Cond.static yX1_setOf, Cond.code yX1_setOf cX1_setOf 1 (some .int), Cond.methodLink RX1 185 yJ6_bitCount_0f7a4, Cond.static yJ6_bitCount_0f7a4, Cond.initialized RJ6, Cond.code yJ6_bitCount_0f7a4 cJ6_bitCount_0f7a4 1 (some .int), Cond.constant RJ6 265 (1431655765), Cond.constant RJ6 266 (858993459), Cond.constant RJ6 267 (252645135)]
def wsL_closeVote : List Cond := .codeWith yL_closeVote cL_closeVote 3 (some .int) [(0, 8, 11, 19)] :: ((wsL_closeVote_r1 ++ wsL_closeVote_r2) ++ wsX10 ++ (vx_atS RX1 175 "java/lang/IllegalStateException" ["java/lang/RuntimeException", "java/lang/Exception"]).filter goodWord)
def wsL_protect_r1 : List Cond := [Cond.classLink RL 19 "java/lang/IllegalStateException", Cond.classLink RL 21 "java/lang/IndexOutOfBoundsException", Cond.classLink RL 13 "java/lang/IllegalArgumentException", Cond.methodLink RL 36 yX1_protect, Cond.instanceMethod yX1_protect, Cond.selects RX1 yX1_protect yX1_protect, Cond.initialized RX1, Cond.code yX1_protect cX1_protect 3 (some .int), Cond.classLink RX1 40 "java/lang/IllegalArgumentException", Cond.initialized "java/lang/IllegalArgumentException", Cond.fieldLink RX1 56 "WitchTrial" "guardPlayer" "I", Cond.fieldLink RX1 33 "WitchTrial" "protectedLastNight" "I", Cond.fieldLink RX1 24 "WitchTrial" "protectChoice" "I", Cond.methodLink RX1 111 yX1_requirePhase, Cond.instanceMethod yX1_requirePhase, Cond.selects RX1 yX1_requirePhase yX1_requirePhase, Cond.code yX1_requirePhase cX1_requirePhase 2 none, Cond.classLink RX1 171 "java/lang/IllegalStateException", Cond.initialized "java/lang/IllegalStateException", Cond.fieldLink RX1 20 "WitchTrial" "phase" "I", Cond.methodLink RX1 130 yX1_requireToLive, Cond.instanceMethod yX1_requireToLive, Cond.selects RX1 yX1_requireToLive yX1_requireToLive, Cond.code yX1_requireToLive cX1_requireToLive 2 none]
def wsL_protect_r2 : List Cond := [Cond.methodLink RX1 114 yX1_isAlive, Cond.instanceMethod yX1_isAlive, Cond.selects RX1 yX1_isAlive yX1_isAlive, Cond.code yX1_isAlive cX1_isAlive 2 (some .boolean), Cond.fieldLink RX1 63 "WitchTrial" "aliveSet" "I", Cond.methodLink RX1 194 yX1_setOf, Cond.static yX1_setOf, Cond.code yX1_setOf cX1_setOf 1 (some .int), Cond.methodLink RX1 95 yX1_requirePlayer, Cond.instanceMethod yX1_requirePlayer, Cond.selects RX1 yX1_requirePlayer yX1_requirePlayer, Cond.code yX1_requirePlayer cX1_requirePlayer 2 none, Cond.classLink RX1 180 "java/lang/IndexOutOfBoundsException", Cond.initialized "java/lang/IndexOutOfBoundsException", Cond.fieldLink RX1 47 "WitchTrial" "playerCount" "I"]
def wsL_protect : List Cond := .codeWith yL_protect cL_protect 4 (some .int) [(0, 9, 12, 19), (0, 9, 15, 21), (0, 9, 18, 13)] :: ((wsL_protect_r1 ++ wsL_protect_r2) ++ wsX10 ++ (vx_atS RX1 44 "java/lang/IllegalArgumentException" ["java/lang/RuntimeException", "java/lang/Exception"]).filter goodWord ++ (vx_atS RX1 175 "java/lang/IllegalStateException" ["java/lang/RuntimeException", "java/lang/Exception"]).filter goodWord ++ (vx_atS RX1 184 "java/lang/IndexOutOfBoundsException" ["java/lang/RuntimeException", "java/lang/Exception"]).filter goodWord)
def wsL_attack_r1 : List Cond := [Cond.classLink RL 19 "java/lang/IllegalStateException", Cond.classLink RL 21 "java/lang/IndexOutOfBoundsException", Cond.classLink RL 13 "java/lang/IllegalArgumentException", Cond.methodLink RL 40 yX1_attack, Cond.instanceMethod yX1_attack, Cond.selects RX1 yX1_attack yX1_attack, Cond.initialized RX1, Cond.code yX1_attack cX1_attack 3 (some .int), Cond.classLink RX1 40 "java/lang/IllegalArgumentException", Cond.initialized "java/lang/IllegalArgumentException", Cond.fieldLink RX1 27 "WitchTrial" "attackChoice" "I", Cond.methodLink RX1 111 yX1_requirePhase, Cond.instanceMethod yX1_requirePhase, Cond.selects RX1 yX1_requirePhase yX1_requirePhase, Cond.code yX1_requirePhase cX1_requirePhase 2 none, Cond.classLink RX1 171 "java/lang/IllegalStateException", Cond.initialized "java/lang/IllegalStateException", Cond.fieldLink RX1 20 "WitchTrial" "phase" "I", Cond.methodLink RX1 95 yX1_requirePlayer, Cond.instanceMethod yX1_requirePlayer, Cond.selects RX1 yX1_requirePlayer yX1_requirePlayer, Cond.code yX1_requirePlayer cX1_requirePlayer 2 none, Cond.classLink RX1 180 "java/lang/IndexOutOfBoundsException", Cond.initialized "java/lang/IndexOutOfBoundsException"]
def wsL_attack_r2 : List Cond := [Cond.fieldLink RX1 47 "WitchTrial" "playerCount" "I", Cond.methodLink RX1 114 yX1_isAlive, Cond.instanceMethod yX1_isAlive, Cond.selects RX1 yX1_isAlive yX1_isAlive, Cond.code yX1_isAlive cX1_isAlive 2 (some .boolean), Cond.fieldLink RX1 63 "WitchTrial" "aliveSet" "I", Cond.methodLink RX1 194 yX1_setOf, Cond.static yX1_setOf, Cond.code yX1_setOf cX1_setOf 1 (some .int), Cond.methodLink RX1 135 yX1_isWitch, Cond.instanceMethod yX1_isWitch, Cond.selects RX1 yX1_isWitch yX1_isWitch, Cond.code yX1_isWitch cX1_isWitch 2 (some .boolean), Cond.fieldLink RX1 50 "WitchTrial" "witchSet" "I"]
def wsL_attack : List Cond := .codeWith yL_attack cL_attack 4 (some .int) [(0, 9, 12, 19), (0, 9, 15, 21), (0, 9, 18, 13)] :: ((wsL_attack_r1 ++ wsL_attack_r2) ++ wsX10 ++ (vx_atS RX1 44 "java/lang/IllegalArgumentException" ["java/lang/RuntimeException", "java/lang/Exception"]).filter goodWord ++ (vx_atS RX1 175 "java/lang/IllegalStateException" ["java/lang/RuntimeException", "java/lang/Exception"]).filter goodWord ++ (vx_atS RX1 184 "java/lang/IndexOutOfBoundsException" ["java/lang/RuntimeException", "java/lang/Exception"]).filter goodWord)
def wsL_look_r1 : List Cond := [Cond.classLink RL 19 "java/lang/IllegalStateException", Cond.classLink RL 21 "java/lang/IndexOutOfBoundsException", Cond.classLink RL 13 "java/lang/IllegalArgumentException", Cond.methodLink RL 43 yX1_look, Cond.instanceMethod yX1_look, Cond.selects RX1 yX1_look yX1_look, Cond.initialized RX1, Cond.code yX1_look cX1_look 3 (some .int), Cond.classLink RX1 40 "java/lang/IllegalArgumentException", Cond.initialized "java/lang/IllegalArgumentException", Cond.fieldLink RX1 53 "WitchTrial" "seerPlayer" "I", Cond.fieldLink RX1 30 "WitchTrial" "lookChoice" "I", Cond.methodLink RX1 111 yX1_requirePhase, Cond.instanceMethod yX1_requirePhase, Cond.selects RX1 yX1_requirePhase yX1_requirePhase, Cond.code yX1_requirePhase cX1_requirePhase 2 none, Cond.classLink RX1 171 "java/lang/IllegalStateException", Cond.initialized "java/lang/IllegalStateException", Cond.fieldLink RX1 20 "WitchTrial" "phase" "I", Cond.methodLink RX1 130 yX1_requireToLive, Cond.instanceMethod yX1_requireToLive, Cond.selects RX1 yX1_requireToLive yX1_requireToLive, Cond.code yX1_requireToLive cX1_requireToLive 2 none, Cond.methodLink RX1 114 yX1_isAlive]
def wsL_look_r2 : List Cond := [Cond.instanceMethod yX1_isAlive, Cond.selects RX1 yX1_isAlive yX1_isAlive, Cond.code yX1_isAlive cX1_isAlive 2 (some .boolean), Cond.fieldLink RX1 63 "WitchTrial" "aliveSet" "I", Cond.methodLink RX1 194 yX1_setOf, Cond.static yX1_setOf, Cond.code yX1_setOf cX1_setOf 1 (some .int), Cond.methodLink RX1 95 yX1_requirePlayer, Cond.instanceMethod yX1_requirePlayer, Cond.selects RX1 yX1_requirePlayer yX1_requirePlayer, Cond.code yX1_requirePlayer cX1_requirePlayer 2 none, Cond.classLink RX1 180 "java/lang/IndexOutOfBoundsException", Cond.initialized "java/lang/IndexOutOfBoundsException", Cond.fieldLink RX1 47 "WitchTrial" "playerCount" "I"]
def wsL_look : List Cond := .codeWith yL_look cL_look 4 (some .int) [(0, 9, 12, 19), (0, 9, 15, 21), (0, 9, 18, 13)] :: ((wsL_look_r1 ++ wsL_look_r2) ++ wsX10 ++ (vx_atS RX1 44 "java/lang/IllegalArgumentException" ["java/lang/RuntimeException", "java/lang/Exception"]).filter goodWord ++ (vx_atS RX1 175 "java/lang/IllegalStateException" ["java/lang/RuntimeException", "java/lang/Exception"]).filter goodWord ++ (vx_atS RX1 184 "java/lang/IndexOutOfBoundsException" ["java/lang/RuntimeException", "java/lang/Exception"]).filter goodWord)
def wsL_endNight_r1 : List Cond := [Cond.classLink RL 19 "java/lang/IllegalStateException", Cond.methodLink RL 46 yX1_endNight, Cond.instanceMethod yX1_endNight, Cond.selects RX1 yX1_endNight yX1_endNight, Cond.initialized RX1, Cond.code yX1_endNight cX1_endNight 2 (some .int), Cond.fieldLink RX1 27 "WitchTrial" "attackChoice" "I", Cond.fieldLink RX1 24 "WitchTrial" "protectChoice" "I", Cond.fieldLink RX1 20 "WitchTrial" "phase" "I", Cond.fieldLink RX1 69 "WitchTrial" "dayNumber" "I", Cond.fieldLink RX1 33 "WitchTrial" "protectedLastNight" "I", Cond.methodLink RX1 111 yX1_requirePhase, Cond.instanceMethod yX1_requirePhase, Cond.selects RX1 yX1_requirePhase yX1_requirePhase, Cond.code yX1_requirePhase cX1_requirePhase 2 none, Cond.classLink RX1 171 "java/lang/IllegalStateException", Cond.initialized "java/lang/IllegalStateException", Cond.methodLink RX1 127 yX1_die, Cond.instanceMethod yX1_die, Cond.selects RX1 yX1_die yX1_die, Cond.code yX1_die cX1_die 4 none, Cond.fieldLink RX1 63 "WitchTrial" "aliveSet" "I", Cond.fieldLink RX1 50 "WitchTrial" "witchSet" "I", Cond.methodLink RX1 194 yX1_setOf]
def wsL_endNight_r2 : List Cond := [Cond.static yX1_setOf, Cond.code yX1_setOf cX1_setOf 1 (some .int), Cond.methodLink RX1 185 yJ6_bitCount_0f7a4, Cond.static yJ6_bitCount_0f7a4, Cond.initialized RJ6, Cond.code yJ6_bitCount_0f7a4 cJ6_bitCount_0f7a4 1 (some .int), Cond.constant RJ6 265 (1431655765), Cond.constant RJ6 266 (858993459), Cond.constant RJ6 267 (252645135), Cond.methodLink RX1 142 yX1_seerLooks, Cond.instanceMethod yX1_seerLooks, Cond.selects RX1 yX1_seerLooks yX1_seerLooks, Cond.code yX1_seerLooks cX1_seerLooks 1 none, Cond.fieldLink RX1 30 "WitchTrial" "lookChoice" "I", Cond.fieldLink RX1 53 "WitchTrial" "seerPlayer" "I", Cond.fieldLink RX1 66 "WitchTrial" "lookedAtSet" "I", Cond.methodLink RX1 114 yX1_isAlive, Cond.instanceMethod yX1_isAlive, Cond.selects RX1 yX1_isAlive yX1_isAlive, Cond.code yX1_isAlive cX1_isAlive 2 (some .boolean), Cond.methodLink RX1 75 yX1_forgetChoices, Cond.instanceMethod yX1_forgetChoices, Cond.selects RX1 yX1_forgetChoices yX1_forgetChoices, Cond.code yX1_forgetChoices cX1_forgetChoices 1 none]
def wsL_endNight : List Cond := .codeWith yL_endNight cL_endNight 3 (some .int) [(0, 8, 11, 19)] :: ((wsL_endNight_r1 ++ wsL_endNight_r2) ++ wsX10 ++ (vx_atS RX1 175 "java/lang/IllegalStateException" ["java/lang/RuntimeException", "java/lang/Exception"]).filter goodWord)
def wsL_day : List Cond := .codeWith yL_day cL_day 3 (some .int) [(0, 8, 11, 19)] :: ([.classLink RL 19 "java/lang/IllegalStateException", .methodLink RL 49 yX1_day, .instanceMethod yX1_day, .selects RX1 yX1_day yX1_day, .initialized RX1, .code yX1_day cX1_day 1 (some .int), .fieldLink RX1 69 "WitchTrial" "dayNumber" "I", .methodLink RX1 92 yX1_requireGame, .instanceMethod yX1_requireGame, .selects RX1 yX1_requireGame yX1_requireGame, .code yX1_requireGame cX1_requireGame 1 none, .classLink RX1 171 "java/lang/IllegalStateException", .initialized "java/lang/IllegalStateException", .fieldLink RX1 20 "WitchTrial" "phase" "I"] ++ wsX10 ++ (vx_atS RX1 175 "java/lang/IllegalStateException" ["java/lang/RuntimeException", "java/lang/Exception"]).filter goodWord)
def wsL_alive : List Cond := .codeWith yL_alive cL_alive 3 (some .int) [(0, 8, 11, 19)] :: ([.classLink RL 19 "java/lang/IllegalStateException", .methodLink RL 52 yX1_alive, .instanceMethod yX1_alive, .selects RX1 yX1_alive yX1_alive, .initialized RX1, .code yX1_alive cX1_alive 1 (some .int), .fieldLink RX1 63 "WitchTrial" "aliveSet" "I", .methodLink RX1 92 yX1_requireGame, .instanceMethod yX1_requireGame, .selects RX1 yX1_requireGame yX1_requireGame, .code yX1_requireGame cX1_requireGame 1 none, .classLink RX1 171 "java/lang/IllegalStateException", .initialized "java/lang/IllegalStateException", .fieldLink RX1 20 "WitchTrial" "phase" "I"] ++ wsX10 ++ (vx_atS RX1 175 "java/lang/IllegalStateException" ["java/lang/RuntimeException", "java/lang/Exception"]).filter goodWord)
def wsL_votesFor_r1 : List Cond := [Cond.classLink RL 19 "java/lang/IllegalStateException", Cond.classLink RL 21 "java/lang/IndexOutOfBoundsException", Cond.methodLink RL 55 yX1_votesFor, Cond.instanceMethod yX1_votesFor, Cond.selects RX1 yX1_votesFor yX1_votesFor, Cond.initialized RX1, Cond.code yX1_votesFor cX1_votesFor 2 (some .int), Cond.methodLink RX1 92 yX1_requireGame, Cond.instanceMethod yX1_requireGame, Cond.selects RX1 yX1_requireGame yX1_requireGame, Cond.code yX1_requireGame cX1_requireGame 1 none, Cond.classLink RX1 171 "java/lang/IllegalStateException", Cond.initialized "java/lang/IllegalStateException", Cond.fieldLink RX1 20 "WitchTrial" "phase" "I", Cond.methodLink RX1 95 yX1_requirePlayer, Cond.instanceMethod yX1_requirePlayer, Cond.selects RX1 yX1_requirePlayer yX1_requirePlayer, Cond.code yX1_requirePlayer cX1_requirePlayer 2 none, Cond.classLink RX1 180 "java/lang/IndexOutOfBoundsException", Cond.initialized "java/lang/IndexOutOfBoundsException", Cond.fieldLink RX1 47 "WitchTrial" "playerCount" "I", Cond.methodLink RX1 120 yX1_countVotes, Cond.instanceMethod yX1_countVotes, Cond.selects RX1 yX1_countVotes yX1_countVotes]
def wsL_votesFor_r2 : List Cond := [Cond.code yX1_countVotes cX1_countVotes 7 (some .int), Cond.fieldLink RX1 16 "WitchTrial" "voteOf" "[I"]
def wsL_votesFor : List Cond := .codeWith yL_votesFor cL_votesFor 4 (some .int) [(0, 9, 12, 19), (0, 9, 15, 21)] :: ((wsL_votesFor_r1 ++ wsL_votesFor_r2) ++ wsX10 ++ (vx_atS RX1 175 "java/lang/IllegalStateException" ["java/lang/RuntimeException", "java/lang/Exception"]).filter goodWord ++ (vx_atS RX1 184 "java/lang/IndexOutOfBoundsException" ["java/lang/RuntimeException", "java/lang/Exception"]).filter goodWord)
def wsL_lookedAt : List Cond := .codeWith yL_lookedAt cL_lookedAt 3 (some .int) [(0, 8, 11, 19)] :: ([.classLink RL 19 "java/lang/IllegalStateException", .methodLink RL 58 yX1_lookedAt, .instanceMethod yX1_lookedAt, .selects RX1 yX1_lookedAt yX1_lookedAt, .initialized RX1, .code yX1_lookedAt cX1_lookedAt 1 (some .int), .fieldLink RX1 66 "WitchTrial" "lookedAtSet" "I", .methodLink RX1 92 yX1_requireGame, .instanceMethod yX1_requireGame, .selects RX1 yX1_requireGame yX1_requireGame, .code yX1_requireGame cX1_requireGame 1 none, .classLink RX1 171 "java/lang/IllegalStateException", .initialized "java/lang/IllegalStateException", .fieldLink RX1 20 "WitchTrial" "phase" "I"] ++ wsX10 ++ (vx_atS RX1 175 "java/lang/IllegalStateException" ["java/lang/RuntimeException", "java/lang/Exception"]).filter goodWord)
def wsL_worlds_r1 : List Cond := [Cond.classLink RL 19 "java/lang/IllegalStateException", Cond.classLink RL 21 "java/lang/IndexOutOfBoundsException", Cond.methodLink RL 61 yX1_worlds, Cond.instanceMethod yX1_worlds, Cond.selects RX1 yX1_worlds yX1_worlds, Cond.initialized RX1, Cond.code yX1_worlds cX1_worlds 2 (some .int), Cond.fieldLink RX1 12 "WitchTrial" "book" "LWitchTrial$Book;", Cond.methodLink RX1 92 yX1_requireGame, Cond.instanceMethod yX1_requireGame, Cond.selects RX1 yX1_requireGame yX1_requireGame, Cond.code yX1_requireGame cX1_requireGame 1 none, Cond.classLink RX1 171 "java/lang/IllegalStateException", Cond.initialized "java/lang/IllegalStateException", Cond.fieldLink RX1 20 "WitchTrial" "phase" "I", Cond.methodLink RX1 145 yX1_requireViewer, Cond.instanceMethod yX1_requireViewer, Cond.selects RX1 yX1_requireViewer yX1_requireViewer, Cond.code yX1_requireViewer cX1_requireViewer 2 none, Cond.methodLink RX1 95 yX1_requirePlayer, Cond.instanceMethod yX1_requirePlayer, Cond.selects RX1 yX1_requirePlayer yX1_requirePlayer, Cond.code yX1_requirePlayer cX1_requirePlayer 2 none, Cond.classLink RX1 180 "java/lang/IndexOutOfBoundsException"]
def wsL_worlds_r2 : List Cond := [Cond.initialized "java/lang/IndexOutOfBoundsException", Cond.fieldLink RX1 47 "WitchTrial" "playerCount" "I", Cond.methodLink RX1 86 yX1_knownBits, Cond.instanceMethod yX1_knownBits, Cond.selects RX1 yX1_knownBits yX1_knownBits, Cond.code yX1_knownBits cX1_knownBits 3 (some .int), Cond.fieldLink RX1 63 "WitchTrial" "aliveSet" "I", Cond.fieldLink RX1 53 "WitchTrial" "seerPlayer" "I", Cond.fieldLink RX1 66 "WitchTrial" "lookedAtSet" "I", Cond.methodLink RX1 59 yX1_everyone, Cond.static yX1_everyone, Cond.code yX1_everyone cX1_everyone 1 (some .int), Cond.methodLink RX1 219 yX1_roleBits, Cond.static yX1_roleBits, Cond.code yX1_roleBits cX1_roleBits 1 (some .int), Cond.methodLink RX1 194 yX1_setOf, Cond.static yX1_setOf, Cond.code yX1_setOf cX1_setOf 1 (some .int), Cond.methodLink RX1 135 yX1_isWitch, Cond.instanceMethod yX1_isWitch, Cond.selects RX1 yX1_isWitch yX1_isWitch, Cond.code yX1_isWitch cX1_isWitch 2 (some .boolean), Cond.fieldLink RX1 50 "WitchTrial" "witchSet" "I", Cond.instanceMethod yX0_count]
def wsL_worlds_r3 : List Cond := [Cond.initialized RX0, Cond.selects RX0 yX0_count yX0_count, Cond.code yX0_count cX0_count 4 (some .int), Cond.fieldLink RX0 11 "WitchTrial$Book" "pages" "[I", Cond.methodLink RX0 55 yX0_agrees, Cond.instanceMethod yX0_agrees, Cond.selects RX0 yX0_agrees yX0_agrees, Cond.code yX0_agrees cX0_agrees 3 (some .boolean), Cond.fieldLink RX0 15 "WitchTrial$Book" "truth" "I"]
def wsL_worlds : List Cond := .codeWith yL_worlds cL_worlds 4 (some .int) [(0, 9, 12, 19), (0, 9, 15, 21)] :: ((wsL_worlds_r1 ++ (wsL_worlds_r2 ++ wsL_worlds_r3)) ++ wsX10 ++ wsX00 ++ (vx_atS RX1 175 "java/lang/IllegalStateException" ["java/lang/RuntimeException", "java/lang/Exception"]).filter goodWord ++ (vx_atS RX1 184 "java/lang/IndexOutOfBoundsException" ["java/lang/RuntimeException", "java/lang/Exception"]).filter goodWord)
def wsL_worldsWith_r1 : List Cond := [Cond.classLink RL 19 "java/lang/IllegalStateException", Cond.classLink RL 21 "java/lang/IndexOutOfBoundsException", Cond.classLink RL 13 "java/lang/IllegalArgumentException", Cond.methodLink RL 64 yX1_worldsWith, Cond.instanceMethod yX1_worldsWith, Cond.selects RX1 yX1_worldsWith yX1_worldsWith, Cond.initialized RX1, Cond.code yX1_worldsWith cX1_worldsWith 4 (some .int), Cond.classLink RX1 40 "java/lang/IllegalArgumentException", Cond.initialized "java/lang/IllegalArgumentException", Cond.fieldLink RX1 12 "WitchTrial" "book" "LWitchTrial$Book;", Cond.methodLink RX1 92 yX1_requireGame, Cond.instanceMethod yX1_requireGame, Cond.selects RX1 yX1_requireGame yX1_requireGame, Cond.code yX1_requireGame cX1_requireGame 1 none, Cond.classLink RX1 171 "java/lang/IllegalStateException", Cond.initialized "java/lang/IllegalStateException", Cond.fieldLink RX1 20 "WitchTrial" "phase" "I", Cond.methodLink RX1 145 yX1_requireViewer, Cond.instanceMethod yX1_requireViewer, Cond.selects RX1 yX1_requireViewer yX1_requireViewer, Cond.code yX1_requireViewer cX1_requireViewer 2 none, Cond.methodLink RX1 95 yX1_requirePlayer, Cond.instanceMethod yX1_requirePlayer]
def wsL_worldsWith_r2 : List Cond := [Cond.selects RX1 yX1_requirePlayer yX1_requirePlayer, Cond.code yX1_requirePlayer cX1_requirePlayer 2 none, Cond.classLink RX1 180 "java/lang/IndexOutOfBoundsException", Cond.initialized "java/lang/IndexOutOfBoundsException", Cond.fieldLink RX1 47 "WitchTrial" "playerCount" "I", Cond.methodLink RX1 86 yX1_knownBits, Cond.instanceMethod yX1_knownBits, Cond.selects RX1 yX1_knownBits yX1_knownBits, Cond.code yX1_knownBits cX1_knownBits 3 (some .int), Cond.fieldLink RX1 63 "WitchTrial" "aliveSet" "I", Cond.fieldLink RX1 53 "WitchTrial" "seerPlayer" "I", Cond.fieldLink RX1 66 "WitchTrial" "lookedAtSet" "I", Cond.methodLink RX1 59 yX1_everyone, Cond.static yX1_everyone, Cond.code yX1_everyone cX1_everyone 1 (some .int), Cond.methodLink RX1 219 yX1_roleBits, Cond.static yX1_roleBits, Cond.code yX1_roleBits cX1_roleBits 1 (some .int), Cond.methodLink RX1 194 yX1_setOf, Cond.static yX1_setOf, Cond.code yX1_setOf cX1_setOf 1 (some .int), Cond.methodLink RX1 135 yX1_isWitch, Cond.instanceMethod yX1_isWitch, Cond.selects RX1 yX1_isWitch yX1_isWitch]
def wsL_worldsWith_r3 : List Cond := [Cond.code yX1_isWitch cX1_isWitch 2 (some .boolean), Cond.fieldLink RX1 50 "WitchTrial" "witchSet" "I", Cond.instanceMethod yX0_countWithRole, Cond.initialized RX0, Cond.selects RX0 yX0_countWithRole yX0_countWithRole, Cond.code yX0_countWithRole cX0_countWithRole 8 (some .int), Cond.fieldLink RX0 11 "WitchTrial$Book" "pages" "[I", Cond.static yX1_bitOfRole, Cond.code yX1_bitOfRole cX1_bitOfRole 2 (some .int), Cond.methodLink RX0 55 yX0_agrees, Cond.instanceMethod yX0_agrees, Cond.selects RX0 yX0_agrees yX0_agrees, Cond.code yX0_agrees cX0_agrees 3 (some .boolean), Cond.fieldLink RX0 15 "WitchTrial$Book" "truth" "I"]
def wsL_worldsWith : List Cond := .codeWith yL_worldsWith cL_worldsWith 6 (some .int) [(0, 12, 15, 19), (0, 12, 19, 21), (0, 12, 23, 13)] :: ((wsL_worldsWith_r1 ++ (wsL_worldsWith_r2 ++ wsL_worldsWith_r3)) ++ wsX10 ++ wsX00 ++ (vx_atS RX1 44 "java/lang/IllegalArgumentException" ["java/lang/RuntimeException", "java/lang/Exception"]).filter goodWord ++ (vx_atS RX1 175 "java/lang/IllegalStateException" ["java/lang/RuntimeException", "java/lang/Exception"]).filter goodWord ++ (vx_atS RX1 184 "java/lang/IndexOutOfBoundsException" ["java/lang/RuntimeException", "java/lang/Exception"]).filter goodWord)
def wsL_sureWitches_r1 : List Cond := [Cond.classLink RL 19 "java/lang/IllegalStateException", Cond.classLink RL 21 "java/lang/IndexOutOfBoundsException", Cond.methodLink RL 67 yX1_sureWitches, Cond.instanceMethod yX1_sureWitches, Cond.selects RX1 yX1_sureWitches yX1_sureWitches, Cond.initialized RX1, Cond.code yX1_sureWitches cX1_sureWitches 2 (some .int), Cond.fieldLink RX1 12 "WitchTrial" "book" "LWitchTrial$Book;", Cond.methodLink RX1 92 yX1_requireGame, Cond.instanceMethod yX1_requireGame, Cond.selects RX1 yX1_requireGame yX1_requireGame, Cond.code yX1_requireGame cX1_requireGame 1 none, Cond.classLink RX1 171 "java/lang/IllegalStateException", Cond.initialized "java/lang/IllegalStateException", Cond.fieldLink RX1 20 "WitchTrial" "phase" "I", Cond.methodLink RX1 145 yX1_requireViewer, Cond.instanceMethod yX1_requireViewer, Cond.selects RX1 yX1_requireViewer yX1_requireViewer, Cond.code yX1_requireViewer cX1_requireViewer 2 none, Cond.methodLink RX1 95 yX1_requirePlayer, Cond.instanceMethod yX1_requirePlayer, Cond.selects RX1 yX1_requirePlayer yX1_requirePlayer, Cond.code yX1_requirePlayer cX1_requirePlayer 2 none, Cond.classLink RX1 180 "java/lang/IndexOutOfBoundsException"]
def wsL_sureWitches_r2 : List Cond := [Cond.initialized "java/lang/IndexOutOfBoundsException", Cond.fieldLink RX1 47 "WitchTrial" "playerCount" "I", Cond.methodLink RX1 86 yX1_knownBits, Cond.instanceMethod yX1_knownBits, Cond.selects RX1 yX1_knownBits yX1_knownBits, Cond.code yX1_knownBits cX1_knownBits 3 (some .int), Cond.fieldLink RX1 63 "WitchTrial" "aliveSet" "I", Cond.fieldLink RX1 53 "WitchTrial" "seerPlayer" "I", Cond.fieldLink RX1 66 "WitchTrial" "lookedAtSet" "I", Cond.methodLink RX1 59 yX1_everyone, Cond.static yX1_everyone, Cond.code yX1_everyone cX1_everyone 1 (some .int), Cond.methodLink RX1 219 yX1_roleBits, Cond.static yX1_roleBits, Cond.code yX1_roleBits cX1_roleBits 1 (some .int), Cond.methodLink RX1 194 yX1_setOf, Cond.static yX1_setOf, Cond.code yX1_setOf cX1_setOf 1 (some .int), Cond.methodLink RX1 135 yX1_isWitch, Cond.instanceMethod yX1_isWitch, Cond.selects RX1 yX1_isWitch yX1_isWitch, Cond.code yX1_isWitch cX1_isWitch 2 (some .boolean), Cond.fieldLink RX1 50 "WitchTrial" "witchSet" "I", Cond.instanceMethod yX0_witchesInAll]
def wsL_sureWitches_r3 : List Cond := [Cond.initialized RX0, Cond.selects RX0 yX0_witchesInAll yX0_witchesInAll, Cond.code yX0_witchesInAll cX0_witchesInAll 4 (some .int), Cond.fieldLink RX0 11 "WitchTrial$Book" "pages" "[I", Cond.methodLink RX0 55 yX0_agrees, Cond.instanceMethod yX0_agrees, Cond.selects RX0 yX0_agrees yX0_agrees, Cond.code yX0_agrees cX0_agrees 3 (some .boolean), Cond.fieldLink RX0 15 "WitchTrial$Book" "truth" "I", Cond.static yX1_witchesOf, Cond.code yX1_witchesOf cX1_witchesOf 1 (some .int)]
def wsL_sureWitches : List Cond := .codeWith yL_sureWitches cL_sureWitches 4 (some .int) [(0, 9, 12, 19), (0, 9, 15, 21)] :: ((wsL_sureWitches_r1 ++ (wsL_sureWitches_r2 ++ wsL_sureWitches_r3)) ++ wsX10 ++ wsX00 ++ (vx_atS RX1 175 "java/lang/IllegalStateException" ["java/lang/RuntimeException", "java/lang/Exception"]).filter goodWord ++ (vx_atS RX1 184 "java/lang/IndexOutOfBoundsException" ["java/lang/RuntimeException", "java/lang/Exception"]).filter goodWord)
def wsL_sureHonest_r1 : List Cond := [Cond.classLink RL 19 "java/lang/IllegalStateException", Cond.classLink RL 21 "java/lang/IndexOutOfBoundsException", Cond.methodLink RL 70 yX1_sureHonest, Cond.instanceMethod yX1_sureHonest, Cond.selects RX1 yX1_sureHonest yX1_sureHonest, Cond.initialized RX1, Cond.code yX1_sureHonest cX1_sureHonest 2 (some .int), Cond.fieldLink RX1 47 "WitchTrial" "playerCount" "I", Cond.fieldLink RX1 12 "WitchTrial" "book" "LWitchTrial$Book;", Cond.methodLink RX1 92 yX1_requireGame, Cond.instanceMethod yX1_requireGame, Cond.selects RX1 yX1_requireGame yX1_requireGame, Cond.code yX1_requireGame cX1_requireGame 1 none, Cond.classLink RX1 171 "java/lang/IllegalStateException", Cond.initialized "java/lang/IllegalStateException", Cond.fieldLink RX1 20 "WitchTrial" "phase" "I", Cond.methodLink RX1 145 yX1_requireViewer, Cond.instanceMethod yX1_requireViewer, Cond.selects RX1 yX1_requireViewer yX1_requireViewer, Cond.code yX1_requireViewer cX1_requireViewer 2 none, Cond.methodLink RX1 95 yX1_requirePlayer, Cond.instanceMethod yX1_requirePlayer, Cond.selects RX1 yX1_requirePlayer yX1_requirePlayer, Cond.code yX1_requirePlayer cX1_requirePlayer 2 none]
def wsL_sureHonest_r2 : List Cond := [Cond.classLink RX1 180 "java/lang/IndexOutOfBoundsException", Cond.initialized "java/lang/IndexOutOfBoundsException", Cond.methodLink RX1 59 yX1_everyone, Cond.static yX1_everyone, Cond.code yX1_everyone cX1_everyone 1 (some .int), Cond.methodLink RX1 86 yX1_knownBits, Cond.instanceMethod yX1_knownBits, Cond.selects RX1 yX1_knownBits yX1_knownBits, Cond.code yX1_knownBits cX1_knownBits 3 (some .int), Cond.fieldLink RX1 63 "WitchTrial" "aliveSet" "I", Cond.fieldLink RX1 53 "WitchTrial" "seerPlayer" "I", Cond.fieldLink RX1 66 "WitchTrial" "lookedAtSet" "I", Cond.methodLink RX1 219 yX1_roleBits, Cond.static yX1_roleBits, Cond.code yX1_roleBits cX1_roleBits 1 (some .int), Cond.methodLink RX1 194 yX1_setOf, Cond.static yX1_setOf, Cond.code yX1_setOf cX1_setOf 1 (some .int), Cond.methodLink RX1 135 yX1_isWitch, Cond.instanceMethod yX1_isWitch, Cond.selects RX1 yX1_isWitch yX1_isWitch, Cond.code yX1_isWitch cX1_isWitch 2 (some .boolean), Cond.fieldLink RX1 50 "WitchTrial" "witchSet" "I", Cond.instanceMethod yX0_witchesInAny]
def wsL_sureHonest_r3 : List Cond := [Cond.initialized RX0, Cond.selects RX0 yX0_witchesInAny yX0_witchesInAny, Cond.code yX0_witchesInAny cX0_witchesInAny 4 (some .int), Cond.fieldLink RX0 11 "WitchTrial$Book" "pages" "[I", Cond.methodLink RX0 55 yX0_agrees, Cond.instanceMethod yX0_agrees, Cond.selects RX0 yX0_agrees yX0_agrees, Cond.code yX0_agrees cX0_agrees 3 (some .boolean), Cond.fieldLink RX0 15 "WitchTrial$Book" "truth" "I", Cond.static yX1_witchesOf, Cond.code yX1_witchesOf cX1_witchesOf 1 (some .int)]
def wsL_sureHonest : List Cond := .codeWith yL_sureHonest cL_sureHonest 4 (some .int) [(0, 9, 12, 19), (0, 9, 15, 21)] :: ((wsL_sureHonest_r1 ++ (wsL_sureHonest_r2 ++ wsL_sureHonest_r3)) ++ wsX10 ++ wsX00 ++ (vx_atS RX1 175 "java/lang/IllegalStateException" ["java/lang/RuntimeException", "java/lang/Exception"]).filter goodWord ++ (vx_atS RX1 184 "java/lang/IndexOutOfBoundsException" ["java/lang/RuntimeException", "java/lang/Exception"]).filter goodWord)
def wsL_witchSets_r1 : List Cond := [Cond.classLink RL 19 "java/lang/IllegalStateException", Cond.classLink RL 21 "java/lang/IndexOutOfBoundsException", Cond.methodLink RL 73 yX1_witchSets, Cond.instanceMethod yX1_witchSets, Cond.selects RX1 yX1_witchSets yX1_witchSets, Cond.initialized RX1, Cond.code yX1_witchSets cX1_witchSets 2 (some .int), Cond.fieldLink RX1 12 "WitchTrial" "book" "LWitchTrial$Book;", Cond.methodLink RX1 92 yX1_requireGame, Cond.instanceMethod yX1_requireGame, Cond.selects RX1 yX1_requireGame yX1_requireGame, Cond.code yX1_requireGame cX1_requireGame 1 none, Cond.classLink RX1 171 "java/lang/IllegalStateException", Cond.initialized "java/lang/IllegalStateException", Cond.fieldLink RX1 20 "WitchTrial" "phase" "I", Cond.methodLink RX1 145 yX1_requireViewer, Cond.instanceMethod yX1_requireViewer, Cond.selects RX1 yX1_requireViewer yX1_requireViewer, Cond.code yX1_requireViewer cX1_requireViewer 2 none, Cond.methodLink RX1 95 yX1_requirePlayer, Cond.instanceMethod yX1_requirePlayer, Cond.selects RX1 yX1_requirePlayer yX1_requirePlayer, Cond.code yX1_requirePlayer cX1_requirePlayer 2 none, Cond.classLink RX1 180 "java/lang/IndexOutOfBoundsException"]
def wsL_witchSets_r2 : List Cond := [Cond.initialized "java/lang/IndexOutOfBoundsException", Cond.fieldLink RX1 47 "WitchTrial" "playerCount" "I", Cond.methodLink RX1 86 yX1_knownBits, Cond.instanceMethod yX1_knownBits, Cond.selects RX1 yX1_knownBits yX1_knownBits, Cond.code yX1_knownBits cX1_knownBits 3 (some .int), Cond.fieldLink RX1 63 "WitchTrial" "aliveSet" "I", Cond.fieldLink RX1 53 "WitchTrial" "seerPlayer" "I", Cond.fieldLink RX1 66 "WitchTrial" "lookedAtSet" "I", Cond.methodLink RX1 59 yX1_everyone, Cond.static yX1_everyone, Cond.code yX1_everyone cX1_everyone 1 (some .int), Cond.methodLink RX1 219 yX1_roleBits, Cond.static yX1_roleBits, Cond.code yX1_roleBits cX1_roleBits 1 (some .int), Cond.methodLink RX1 194 yX1_setOf, Cond.static yX1_setOf, Cond.code yX1_setOf cX1_setOf 1 (some .int), Cond.methodLink RX1 135 yX1_isWitch, Cond.instanceMethod yX1_isWitch, Cond.selects RX1 yX1_isWitch yX1_isWitch, Cond.code yX1_isWitch cX1_isWitch 2 (some .boolean), Cond.fieldLink RX1 50 "WitchTrial" "witchSet" "I", Cond.instanceMethod yX0_countWitchSets]
def wsL_witchSets_r3 : List Cond := [Cond.initialized RX0, Cond.selects RX0 yX0_countWitchSets yX0_countWitchSets, Cond.code yX0_countWitchSets cX0_countWitchSets 5 (some .int), Cond.fieldLink RX0 11 "WitchTrial$Book" "pages" "[I", Cond.methodLink RX0 55 yX0_agrees, Cond.instanceMethod yX0_agrees, Cond.selects RX0 yX0_agrees yX0_agrees, Cond.code yX0_agrees cX0_agrees 3 (some .boolean), Cond.fieldLink RX0 15 "WitchTrial$Book" "truth" "I", Cond.static yX1_witchesOf, Cond.code yX1_witchesOf cX1_witchesOf 1 (some .int)]
def wsL_witchSets : List Cond := .codeWith yL_witchSets cL_witchSets 4 (some .int) [(0, 9, 12, 19), (0, 9, 15, 21)] :: ((wsL_witchSets_r1 ++ (wsL_witchSets_r2 ++ wsL_witchSets_r3)) ++ wsX10 ++ wsX00 ++ (vx_atS RX1 175 "java/lang/IllegalStateException" ["java/lang/RuntimeException", "java/lang/Exception"]).filter goodWord ++ (vx_atS RX1 184 "java/lang/IndexOutOfBoundsException" ["java/lang/RuntimeException", "java/lang/Exception"]).filter goodWord)
def wsL_suspect_r1 : List Cond := [Cond.classLink RL 19 "java/lang/IllegalStateException", Cond.classLink RL 21 "java/lang/IndexOutOfBoundsException", Cond.methodLink RL 76 yX1_suspect, Cond.instanceMethod yX1_suspect, Cond.selects RX1 yX1_suspect yX1_suspect, Cond.initialized RX1, Cond.code yX1_suspect cX1_suspect 7 (some .int), Cond.fieldLink RX1 47 "WitchTrial" "playerCount" "I", Cond.fieldLink RX1 12 "WitchTrial" "book" "LWitchTrial$Book;", Cond.methodLink RX1 92 yX1_requireGame, Cond.instanceMethod yX1_requireGame, Cond.selects RX1 yX1_requireGame yX1_requireGame, Cond.code yX1_requireGame cX1_requireGame 1 none, Cond.classLink RX1 171 "java/lang/IllegalStateException", Cond.initialized "java/lang/IllegalStateException", Cond.fieldLink RX1 20 "WitchTrial" "phase" "I", Cond.methodLink RX1 145 yX1_requireViewer, Cond.instanceMethod yX1_requireViewer, Cond.selects RX1 yX1_requireViewer yX1_requireViewer, Cond.code yX1_requireViewer cX1_requireViewer 2 none, Cond.methodLink RX1 95 yX1_requirePlayer, Cond.instanceMethod yX1_requirePlayer, Cond.selects RX1 yX1_requirePlayer yX1_requirePlayer, Cond.code yX1_requirePlayer cX1_requirePlayer 2 none]
def wsL_suspect_r2 : List Cond := [Cond.classLink RX1 180 "java/lang/IndexOutOfBoundsException", Cond.initialized "java/lang/IndexOutOfBoundsException", Cond.methodLink RX1 86 yX1_knownBits, Cond.instanceMethod yX1_knownBits, Cond.selects RX1 yX1_knownBits yX1_knownBits, Cond.code yX1_knownBits cX1_knownBits 3 (some .int), Cond.fieldLink RX1 63 "WitchTrial" "aliveSet" "I", Cond.fieldLink RX1 53 "WitchTrial" "seerPlayer" "I", Cond.fieldLink RX1 66 "WitchTrial" "lookedAtSet" "I", Cond.methodLink RX1 59 yX1_everyone, Cond.static yX1_everyone, Cond.code yX1_everyone cX1_everyone 1 (some .int), Cond.methodLink RX1 219 yX1_roleBits, Cond.static yX1_roleBits, Cond.code yX1_roleBits cX1_roleBits 1 (some .int), Cond.methodLink RX1 194 yX1_setOf, Cond.static yX1_setOf, Cond.code yX1_setOf cX1_setOf 1 (some .int), Cond.methodLink RX1 135 yX1_isWitch, Cond.instanceMethod yX1_isWitch, Cond.selects RX1 yX1_isWitch yX1_isWitch, Cond.code yX1_isWitch cX1_isWitch 2 (some .boolean), Cond.fieldLink RX1 50 "WitchTrial" "witchSet" "I", Cond.methodLink RX1 114 yX1_isAlive]
def wsL_suspect_r3 : List Cond := [Cond.instanceMethod yX1_isAlive, Cond.selects RX1 yX1_isAlive yX1_isAlive, Cond.code yX1_isAlive cX1_isAlive 2 (some .boolean), Cond.instanceMethod yX0_countWithRole, Cond.initialized RX0, Cond.selects RX0 yX0_countWithRole yX0_countWithRole, Cond.code yX0_countWithRole cX0_countWithRole 8 (some .int), Cond.fieldLink RX0 11 "WitchTrial$Book" "pages" "[I", Cond.static yX1_bitOfRole, Cond.code yX1_bitOfRole cX1_bitOfRole 2 (some .int), Cond.methodLink RX0 55 yX0_agrees, Cond.instanceMethod yX0_agrees, Cond.selects RX0 yX0_agrees yX0_agrees, Cond.code yX0_agrees cX0_agrees 3 (some .boolean), Cond.fieldLink RX0 15 "WitchTrial$Book" "truth" "I"]
def wsL_suspect : List Cond := .codeWith yL_suspect cL_suspect 4 (some .int) [(0, 9, 12, 19), (0, 9, 15, 21)] :: ((wsL_suspect_r1 ++ (wsL_suspect_r2 ++ wsL_suspect_r3)) ++ wsX10 ++ wsX00 ++ (vx_atS RX1 175 "java/lang/IllegalStateException" ["java/lang/RuntimeException", "java/lang/Exception"]).filter goodWord ++ (vx_atS RX1 184 "java/lang/IndexOutOfBoundsException" ["java/lang/RuntimeException", "java/lang/Exception"]).filter goodWord)
def wsL_bestLook_r1 : List Cond := [Cond.classLink RL 19 "java/lang/IllegalStateException", Cond.methodLink RL 79 yX1_bestLook, Cond.instanceMethod yX1_bestLook, Cond.selects RX1 yX1_bestLook yX1_bestLook, Cond.initialized RX1, Cond.code yX1_bestLook cX1_bestLook 8 (some .int), Cond.fieldLink RX1 53 "WitchTrial" "seerPlayer" "I", Cond.fieldLink RX1 12 "WitchTrial" "book" "LWitchTrial$Book;", Cond.fieldLink RX1 47 "WitchTrial" "playerCount" "I", Cond.methodLink RX1 162 Lib.Math.max.name, Cond.static Lib.Math.max.name, Cond.initialized "java/lang/Math", Cond.code Lib.Math.max.name Lib.Math.max.code 2 (some .int), Cond.methodLink RX1 92 yX1_requireGame, Cond.instanceMethod yX1_requireGame, Cond.selects RX1 yX1_requireGame yX1_requireGame, Cond.code yX1_requireGame cX1_requireGame 1 none, Cond.classLink RX1 171 "java/lang/IllegalStateException", Cond.initialized "java/lang/IllegalStateException", Cond.fieldLink RX1 20 "WitchTrial" "phase" "I", Cond.methodLink RX1 86 yX1_knownBits, Cond.instanceMethod yX1_knownBits, Cond.selects RX1 yX1_knownBits yX1_knownBits, Cond.code yX1_knownBits cX1_knownBits 3 (some .int)]
def wsL_bestLook_r2 : List Cond := [Cond.fieldLink RX1 63 "WitchTrial" "aliveSet" "I", Cond.fieldLink RX1 66 "WitchTrial" "lookedAtSet" "I", Cond.methodLink RX1 59 yX1_everyone, Cond.static yX1_everyone, Cond.code yX1_everyone cX1_everyone 1 (some .int), Cond.methodLink RX1 219 yX1_roleBits, Cond.static yX1_roleBits, Cond.code yX1_roleBits cX1_roleBits 1 (some .int), Cond.methodLink RX1 194 yX1_setOf, Cond.static yX1_setOf, Cond.code yX1_setOf cX1_setOf 1 (some .int), Cond.methodLink RX1 135 yX1_isWitch, Cond.instanceMethod yX1_isWitch, Cond.selects RX1 yX1_isWitch yX1_isWitch, Cond.code yX1_isWitch cX1_isWitch 2 (some .boolean), Cond.fieldLink RX1 50 "WitchTrial" "witchSet" "I", Cond.instanceMethod yX0_count, Cond.initialized RX0, Cond.selects RX0 yX0_count yX0_count, Cond.code yX0_count cX0_count 4 (some .int), Cond.fieldLink RX0 11 "WitchTrial$Book" "pages" "[I", Cond.methodLink RX0 55 yX0_agrees, Cond.instanceMethod yX0_agrees, Cond.selects RX0 yX0_agrees yX0_agrees]
def wsL_bestLook_r3 : List Cond := [Cond.code yX0_agrees cX0_agrees 3 (some .boolean), Cond.fieldLink RX0 15 "WitchTrial$Book" "truth" "I", Cond.methodLink RX1 114 yX1_isAlive, Cond.instanceMethod yX1_isAlive, Cond.selects RX1 yX1_isAlive yX1_isAlive, Cond.code yX1_isAlive cX1_isAlive 2 (some .boolean), Cond.instanceMethod yX0_countWithRole, Cond.selects RX0 yX0_countWithRole yX0_countWithRole, Cond.code yX0_countWithRole cX0_countWithRole 8 (some .int), Cond.static yX1_bitOfRole, Cond.code yX1_bitOfRole cX1_bitOfRole 2 (some .int)]
def wsL_bestLook : List Cond := .codeWith yL_bestLook cL_bestLook 3 (some .int) [(0, 8, 11, 19)] :: ((wsL_bestLook_r1 ++ (wsL_bestLook_r2 ++ wsL_bestLook_r3)) ++ wsX10 ++ wsX00 ++ (vx_atS RX1 175 "java/lang/IllegalStateException" ["java/lang/RuntimeException", "java/lang/Exception"]).filter goodWord)
def wsL_isPossible_r1 : List Cond := [Cond.classLink RL 19 "java/lang/IllegalStateException", Cond.classLink RL 21 "java/lang/IndexOutOfBoundsException", Cond.methodLink RL 82 yX1_isPossible, Cond.instanceMethod yX1_isPossible, Cond.selects RX1 yX1_isPossible yX1_isPossible, Cond.initialized RX1, Cond.code yX1_isPossible cX1_isPossible 5 (some .boolean), Cond.fieldLink RX1 12 "WitchTrial" "book" "LWitchTrial$Book;", Cond.methodLink RX1 92 yX1_requireGame, Cond.instanceMethod yX1_requireGame, Cond.selects RX1 yX1_requireGame yX1_requireGame, Cond.code yX1_requireGame cX1_requireGame 1 none, Cond.classLink RX1 171 "java/lang/IllegalStateException", Cond.initialized "java/lang/IllegalStateException", Cond.fieldLink RX1 20 "WitchTrial" "phase" "I", Cond.methodLink RX1 145 yX1_requireViewer, Cond.instanceMethod yX1_requireViewer, Cond.selects RX1 yX1_requireViewer yX1_requireViewer, Cond.code yX1_requireViewer cX1_requireViewer 2 none, Cond.methodLink RX1 95 yX1_requirePlayer, Cond.instanceMethod yX1_requirePlayer, Cond.selects RX1 yX1_requirePlayer yX1_requirePlayer, Cond.code yX1_requirePlayer cX1_requirePlayer 2 none, Cond.classLink RX1 180 "java/lang/IndexOutOfBoundsException"]
def wsL_isPossible_r2 : List Cond := [Cond.initialized "java/lang/IndexOutOfBoundsException", Cond.fieldLink RX1 47 "WitchTrial" "playerCount" "I", Cond.methodLink RX1 78 yX1_worldOf, Cond.static yX1_worldOf, Cond.code yX1_worldOf cX1_worldOf 3 (some .int), Cond.methodLink RX1 194 yX1_setOf, Cond.static yX1_setOf, Cond.code yX1_setOf cX1_setOf 1 (some .int), Cond.methodLink RX1 86 yX1_knownBits, Cond.instanceMethod yX1_knownBits, Cond.selects RX1 yX1_knownBits yX1_knownBits, Cond.code yX1_knownBits cX1_knownBits 3 (some .int), Cond.fieldLink RX1 63 "WitchTrial" "aliveSet" "I", Cond.fieldLink RX1 53 "WitchTrial" "seerPlayer" "I", Cond.fieldLink RX1 66 "WitchTrial" "lookedAtSet" "I", Cond.methodLink RX1 59 yX1_everyone, Cond.static yX1_everyone, Cond.code yX1_everyone cX1_everyone 1 (some .int), Cond.methodLink RX1 219 yX1_roleBits, Cond.static yX1_roleBits, Cond.code yX1_roleBits cX1_roleBits 1 (some .int), Cond.methodLink RX1 135 yX1_isWitch, Cond.instanceMethod yX1_isWitch, Cond.selects RX1 yX1_isWitch yX1_isWitch]
def wsL_isPossible_r3 : List Cond := [Cond.code yX1_isWitch cX1_isWitch 2 (some .boolean), Cond.fieldLink RX1 50 "WitchTrial" "witchSet" "I", Cond.instanceMethod yX0_contains, Cond.initialized RX0, Cond.selects RX0 yX0_contains yX0_contains, Cond.code yX0_contains cX0_contains 4 (some .boolean), Cond.fieldLink RX0 11 "WitchTrial$Book" "pages" "[I", Cond.methodLink RX0 55 yX0_agrees, Cond.instanceMethod yX0_agrees, Cond.selects RX0 yX0_agrees yX0_agrees, Cond.code yX0_agrees cX0_agrees 3 (some .boolean), Cond.fieldLink RX0 15 "WitchTrial$Book" "truth" "I"]
def wsL_isPossible : List Cond := .codeWith yL_isPossible cL_isPossible 7 (some .int) [(0, 21, 24, 19), (0, 21, 28, 21)] :: ((wsL_isPossible_r1 ++ (wsL_isPossible_r2 ++ wsL_isPossible_r3)) ++ wsX10 ++ wsX00 ++ (vx_atS RX1 175 "java/lang/IllegalStateException" ["java/lang/RuntimeException", "java/lang/Exception"]).filter goodWord ++ (vx_atS RX1 184 "java/lang/IndexOutOfBoundsException" ["java/lang/RuntimeException", "java/lang/Exception"]).filter goodWord)
def wsL_law0_r1 : List Cond := [Cond.classLink RL 8 RX1, Cond.instantiable RX1 14, Cond.initialized RX1, Cond.classLink RL 87 RX2, Cond.instantiable RX2 16, Cond.initialized RX2, Cond.arrayClass .long, Cond.methodLink RL 86 yX1_init, Cond.instanceMethod yX1_init, Cond.code yX1_init cX1_init 1 none, Cond.methodLink RX1 3 objectInit, Cond.instanceMethod objectInit, Cond.code objectInit ⟨#[0xb1]⟩ 1 none, Cond.classLink RX1 9 RX0, Cond.instantiable RX0 2, Cond.initialized RX0, Cond.fieldLink RX1 12 "WitchTrial" "book" "LWitchTrial$Book;", Cond.arrayClass .int, Cond.fieldLink RX1 16 "WitchTrial" "voteOf" "[I", Cond.fieldLink RX1 20 "WitchTrial" "phase" "I", Cond.fieldLink RX1 24 "WitchTrial" "protectChoice" "I", Cond.fieldLink RX1 27 "WitchTrial" "attackChoice" "I", Cond.fieldLink RX1 30 "WitchTrial" "lookChoice" "I", Cond.fieldLink RX1 33 "WitchTrial" "protectedLastNight" "I"]
def wsL_law0_r2 : List Cond := [Cond.instanceMethod yX0_init, Cond.code yX0_init cX0_init 1 none, Cond.methodLink RX0 3 objectInit, Cond.fieldLink RX0 11 "WitchTrial$Book" "pages" "[I", Cond.methodLink RL 89 yX2_init, Cond.instanceMethod yX2_init, Cond.code yX2_init cX2_init 1 none, Cond.methodLink RX2 1 objectInit, Cond.arrayClass .boolean, Cond.fieldLink RX2 7 "WitchTrialModel" "isOpen" "[Z", Cond.fieldLink RX2 13 "WitchTrialModel" "votes" "[I", Cond.fieldLink RX2 17 "WitchTrialModel" "many" "[I", Cond.methodLink RL 90 yL_start, Cond.static yL_start, Cond.initialized RL, Cond.codeWith yL_start cL_start 7 (some .int) [(0, 14, 17, 13)], Cond.classLink RL 13 "java/lang/IllegalArgumentException", Cond.methodLink RL 7 yX1_start, Cond.instanceMethod yX1_start, Cond.selects RX1 yX1_start yX1_start, Cond.code yX1_start cX1_start 5 (some .int), Cond.classLink RX1 40 "java/lang/IllegalArgumentException", Cond.initialized "java/lang/IllegalArgumentException", Cond.fieldLink RX1 47 "WitchTrial" "playerCount" "I"]
def wsL_law0_r3 : List Cond := [Cond.fieldLink RX1 50 "WitchTrial" "witchSet" "I", Cond.fieldLink RX1 53 "WitchTrial" "seerPlayer" "I", Cond.fieldLink RX1 56 "WitchTrial" "guardPlayer" "I", Cond.fieldLink RX1 63 "WitchTrial" "aliveSet" "I", Cond.fieldLink RX1 66 "WitchTrial" "lookedAtSet" "I", Cond.fieldLink RX1 69 "WitchTrial" "dayNumber" "I", Cond.methodLink RX1 36 yX1_isDeal, Cond.static yX1_isDeal, Cond.code yX1_isDeal cX1_isDeal 4 (some .boolean), Cond.methodLink RX1 59 yX1_everyone, Cond.static yX1_everyone, Cond.code yX1_everyone cX1_everyone 1 (some .int), Cond.methodLink RX1 185 yJ6_bitCount_0f7a4, Cond.static yJ6_bitCount_0f7a4, Cond.initialized RJ6, Cond.code yJ6_bitCount_0f7a4 cJ6_bitCount_0f7a4 1 (some .int), Cond.constant RJ6 265 (1431655765), Cond.constant RJ6 266 (858993459), Cond.constant RJ6 267 (252645135), Cond.methodLink RX1 190 yX1_isHonestIn, Cond.static yX1_isHonestIn, Cond.code yX1_isHonestIn cX1_isHonestIn 3 (some .boolean), Cond.methodLink RX1 194 yX1_setOf, Cond.static yX1_setOf]
def wsL_law0_r4 : List Cond := [Cond.code yX1_setOf cX1_setOf 1 (some .int), Cond.methodLink RX1 72 yX1_forgetVotes, Cond.instanceMethod yX1_forgetVotes, Cond.selects RX1 yX1_forgetVotes yX1_forgetVotes, Cond.code yX1_forgetVotes cX1_forgetVotes 1 none, Cond.methodLink RX1 210 yJ7_fill_53178, Cond.static yJ7_fill_53178, Cond.initialized RJ7, Cond.code yJ7_fill_53178 cJ7_fill_53178 4 none, Cond.methodLink RX1 75 yX1_forgetChoices, Cond.instanceMethod yX1_forgetChoices, Cond.selects RX1 yX1_forgetChoices yX1_forgetChoices, Cond.code yX1_forgetChoices cX1_forgetChoices 1 none, Cond.methodLink RX1 78 yX1_worldOf, Cond.static yX1_worldOf, Cond.code yX1_worldOf cX1_worldOf 3 (some .int), Cond.instanceMethod yX0_open, Cond.selects RX0 yX0_open yX0_open, Cond.code yX0_open cX0_open 6 none, Cond.fieldLink RX0 15 "WitchTrial$Book" "truth" "I", Cond.methodLink RX0 19 yJ7_fill_53178, Cond.static yX1_witchesOf, Cond.code yX1_witchesOf cX1_witchesOf 1 (some .int), Cond.methodLink RX0 29 yJ6_bitCount_0f7a4]
def wsL_law0_r5 : List Cond := [Cond.methodLink RX0 37 yX0_addWorlds, Cond.instanceMethod yX0_addWorlds, Cond.selects RX0 yX0_addWorlds yX0_addWorlds, Cond.code yX0_addWorlds cX0_addWorlds 8 (some .int), Cond.methodLink RX1 86 yX1_knownBits, Cond.instanceMethod yX1_knownBits, Cond.selects RX1 yX1_knownBits yX1_knownBits, Cond.code yX1_knownBits cX1_knownBits 3 (some .int), Cond.methodLink RX1 219 yX1_roleBits, Cond.static yX1_roleBits, Cond.code yX1_roleBits cX1_roleBits 1 (some .int), Cond.methodLink RX1 135 yX1_isWitch, Cond.instanceMethod yX1_isWitch, Cond.selects RX1 yX1_isWitch yX1_isWitch, Cond.code yX1_isWitch cX1_isWitch 2 (some .boolean), Cond.instanceMethod yX0_count, Cond.selects RX0 yX0_count yX0_count, Cond.code yX0_count cX0_count 4 (some .int), Cond.methodLink RX0 55 yX0_agrees, Cond.instanceMethod yX0_agrees, Cond.selects RX0 yX0_agrees yX0_agrees, Cond.code yX0_agrees cX0_agrees 3 (some .boolean), Cond.methodLink RL 95 yX2_start, Cond.instanceMethod yX2_start]
def wsL_law0_r6 : List Cond := [Cond.selects RX2 yX2_start yX2_start, Cond.code yX2_start cX2_start 8 (some .int), Cond.fieldLink RX2 20 "WitchTrialModel" "thrown" "I", Cond.fieldLink RX2 24 "WitchTrialModel" "players" "I", Cond.fieldLink RX2 43 "WitchTrialModel" "witches" "I", Cond.fieldLink RX2 46 "WitchTrialModel" "seer" "I", Cond.fieldLink RX2 49 "WitchTrialModel" "guard" "I", Cond.fieldLink RX2 67 "WitchTrialModel" "alive" "I", Cond.fieldLink RX2 70 "WitchTrialModel" "phase" "I", Cond.fieldLink RX2 73 "WitchTrialModel" "day" "I", Cond.fieldLink RX2 60 "WitchTrialModel" "looked" "I", Cond.fieldLink RX2 76 "WitchTrialModel" "shieldedBefore" "I", Cond.methodLink RX2 35 yX2_bits, Cond.static yX2_bits, Cond.code yX2_bits cX2_bits 3 (some .int), Cond.methodLink RX2 27 yX2_in, Cond.static yX2_in, Cond.code yX2_in cX2_in 3 (some .boolean), Cond.methodLink RX2 63 yX2_isWorld, Cond.static yX2_isWorld, Cond.code yX2_isWorld cX2_isWorld 6 (some .boolean), Cond.methodLink RX2 39 yX2_has, Cond.static yX2_has, Cond.code yX2_has cX2_has 2 (some .boolean)]
def wsL_law0_r7 : List Cond := [Cond.methodLink RX2 79 yX2_forgets, Cond.instanceMethod yX2_forgets, Cond.selects RX2 yX2_forgets yX2_forgets, Cond.code yX2_forgets cX2_forgets 2 none, Cond.fieldLink RX2 85 "WitchTrialModel" "shielded" "I", Cond.fieldLink RX2 88 "WitchTrialModel" "attacked" "I", Cond.fieldLink RX2 91 "WitchTrialModel" "watched" "I", Cond.methodLink RX2 82 yX2_manyOpen, Cond.instanceMethod yX2_manyOpen, Cond.selects RX2 yX2_manyOpen yX2_manyOpen, Cond.code yX2_manyOpen cX2_manyOpen 3 (some .int), Cond.methodLink RL 96 yX2_thrown, Cond.instanceMethod yX2_thrown, Cond.selects RX2 yX2_thrown yX2_thrown, Cond.code yX2_thrown cX2_thrown 1 (some .int), Cond.methodLink RL 99 yX1_phase, Cond.instanceMethod yX1_phase, Cond.selects RX1 yX1_phase yX1_phase, Cond.code yX1_phase cX1_phase 1 (some .int), Cond.methodLink RL 102 yX2_phase, Cond.instanceMethod yX2_phase, Cond.selects RX2 yX2_phase yX2_phase, Cond.code yX2_phase cX2_phase 1 (some .int), Cond.methodLink RL 103 yL_claim]
def wsL_law0_r8 : List Cond := [Cond.static yL_claim, Cond.codeWith yL_claim cL_claim 6 (some .int) [(0, 12, 15, 19), (0, 12, 19, 21), (0, 12, 23, 13), (0, 12, 27, 23)], Cond.classLink RL 19 "java/lang/IllegalStateException", Cond.classLink RL 21 "java/lang/IndexOutOfBoundsException", Cond.classLink RL 23 "java/util/NoSuchElementException", Cond.methodLink RL 15 yX1_claim, Cond.instanceMethod yX1_claim, Cond.selects RX1 yX1_claim yX1_claim, Cond.code yX1_claim cX1_claim 4 (some .int), Cond.methodLink RX1 92 yX1_requireGame, Cond.instanceMethod yX1_requireGame, Cond.selects RX1 yX1_requireGame yX1_requireGame, Cond.code yX1_requireGame cX1_requireGame 1 none, Cond.classLink RX1 171 "java/lang/IllegalStateException", Cond.initialized "java/lang/IllegalStateException", Cond.methodLink RX1 95 yX1_requirePlayer, Cond.instanceMethod yX1_requirePlayer, Cond.selects RX1 yX1_requirePlayer yX1_requirePlayer, Cond.code yX1_requirePlayer cX1_requirePlayer 2 none, Cond.classLink RX1 180 "java/lang/IndexOutOfBoundsException", Cond.initialized "java/lang/IndexOutOfBoundsException", Cond.methodLink RX1 101 yX1_claimedBits, Cond.static yX1_claimedBits, Cond.code yX1_claimedBits cX1_claimedBits 2 (some .int)]
def wsL_law0_r9 : List Cond := [Cond.methodLink RX1 216 yX1_bitOfRole, Cond.static yX1_bitOfRole, Cond.code yX1_bitOfRole cX1_bitOfRole 2 (some .int), Cond.methodLink RX1 105 yX1_makeClaim, Cond.instanceMethod yX1_makeClaim, Cond.selects RX1 yX1_makeClaim yX1_makeClaim, Cond.code yX1_makeClaim cX1_makeClaim 4 (some .int), Cond.classLink RX1 201 "java/util/NoSuchElementException", Cond.initialized "java/util/NoSuchElementException", Cond.methodLink RX1 114 yX1_isAlive, Cond.instanceMethod yX1_isAlive, Cond.selects RX1 yX1_isAlive yX1_isAlive, Cond.code yX1_isAlive cX1_isAlive 2 (some .boolean), Cond.instanceMethod yX0_allowsClaim, Cond.selects RX0 yX0_allowsClaim yX0_allowsClaim, Cond.code yX0_allowsClaim cX0_allowsClaim 4 (some .boolean), Cond.methodLink RX0 51 yX0_agreesWithClaim, Cond.static yX0_agreesWithClaim, Cond.code yX0_agreesWithClaim cX0_agreesWithClaim 4 (some .boolean), Cond.instanceMethod yX0_keepClaim, Cond.selects RX0 yX0_keepClaim yX0_keepClaim, Cond.code yX0_keepClaim cX0_keepClaim 7 none, Cond.methodLink RL 106 yX2_claim, Cond.instanceMethod yX2_claim]
def wsL_law0_r10 : List Cond := [Cond.selects RX2 yX2_claim yX2_claim, Cond.code yX2_claim cX2_claim 5 (some .int), Cond.methodLink RX2 31 yX2_isPlayer, Cond.instanceMethod yX2_isPlayer, Cond.selects RX2 yX2_isPlayer yX2_isPlayer, Cond.code yX2_isPlayer cX2_isPlayer 2 (some .boolean), Cond.methodLink RX2 52 yX2_truth, Cond.instanceMethod yX2_truth, Cond.selects RX2 yX2_truth yX2_truth, Cond.code yX2_truth cX2_truth 1 (some .int), Cond.methodLink RX2 94 yX2_isTrue, Cond.static yX2_isTrue, Cond.code yX2_isTrue cX2_isTrue 4 (some .boolean), Cond.methodLink RX2 56 yX2_roleIn, Cond.static yX2_roleIn, Cond.code yX2_roleIn cX2_roleIn 2 (some .int), Cond.methodLink RX2 97 yX2_may, Cond.instanceMethod yX2_may, Cond.selects RX2 yX2_may yX2_may, Cond.code yX2_may cX2_may 3 (some .boolean), Cond.methodLink RL 107 yL_claimAmong, Cond.static yL_claimAmong, Cond.codeWith yL_claimAmong cL_claimAmong 5 (some .int) [(0, 10, 13, 19), (0, 10, 17, 21), (0, 10, 21, 13), (0, 10, 25, 23)], Cond.methodLink RL 25 yX1_claimAmong]
def wsL_law0_r11 : List Cond := [Cond.instanceMethod yX1_claimAmong, Cond.selects RX1 yX1_claimAmong yX1_claimAmong, Cond.code yX1_claimAmong cX1_claimAmong 3 (some .int), Cond.methodLink RL 110 yX2_claimAmong, Cond.instanceMethod yX2_claimAmong, Cond.selects RX2 yX2_claimAmong yX2_claimAmong, Cond.code yX2_claimAmong cX2_claimAmong 4 (some .int), Cond.methodLink RL 111 yL_vote, Cond.static yL_vote, Cond.codeWith yL_vote cL_vote 5 (some .int) [(0, 10, 13, 19), (0, 10, 17, 21), (0, 10, 21, 13)], Cond.methodLink RL 29 yX1_vote, Cond.instanceMethod yX1_vote, Cond.selects RX1 yX1_vote yX1_vote, Cond.code yX1_vote cX1_vote 3 (some .int), Cond.methodLink RX1 111 yX1_requirePhase, Cond.instanceMethod yX1_requirePhase, Cond.selects RX1 yX1_requirePhase yX1_requirePhase, Cond.code yX1_requirePhase cX1_requirePhase 2 none, Cond.methodLink RX1 120 yX1_countVotes, Cond.instanceMethod yX1_countVotes, Cond.selects RX1 yX1_countVotes yX1_countVotes, Cond.code yX1_countVotes cX1_countVotes 7 (some .int), Cond.methodLink RL 113 yX2_vote, Cond.instanceMethod yX2_vote]
def wsL_law0_r12 : List Cond := [Cond.selects RX2 yX2_vote yX2_vote, Cond.code yX2_vote cX2_vote 3 (some .int), Cond.methodLink RX2 101 yX2_manyVotes, Cond.instanceMethod yX2_manyVotes, Cond.selects RX2 yX2_manyVotes yX2_manyVotes, Cond.code yX2_manyVotes cX2_manyVotes 4 (some .int), Cond.methodLink RL 114 yL_closeVote, Cond.static yL_closeVote, Cond.codeWith yL_closeVote cL_closeVote 3 (some .int) [(0, 8, 11, 19)], Cond.methodLink RL 32 yX1_closeVote, Cond.instanceMethod yX1_closeVote, Cond.selects RX1 yX1_closeVote yX1_closeVote, Cond.code yX1_closeVote cX1_closeVote 2 (some .int), Cond.methodLink RX1 123 yX1_playerWithMostVotes, Cond.instanceMethod yX1_playerWithMostVotes, Cond.selects RX1 yX1_playerWithMostVotes yX1_playerWithMostVotes, Cond.code yX1_playerWithMostVotes cX1_playerWithMostVotes 5 (some .int), Cond.methodLink RX1 127 yX1_die, Cond.instanceMethod yX1_die, Cond.selects RX1 yX1_die yX1_die, Cond.code yX1_die cX1_die 4 none, Cond.methodLink RL 117 yX2_closeVote, Cond.instanceMethod yX2_closeVote, Cond.selects RX2 yX2_closeVote yX2_closeVote]
def wsL_law0_r13 : List Cond := [Cond.code yX2_closeVote cX2_closeVote 5 (some .int), Cond.methodLink RX2 104 yX2_dies, Cond.instanceMethod yX2_dies, Cond.selects RX2 yX2_dies yX2_dies, Cond.code yX2_dies cX2_dies 4 none, Cond.methodLink RL 118 yL_protect, Cond.static yL_protect, Cond.codeWith yL_protect cL_protect 4 (some .int) [(0, 9, 12, 19), (0, 9, 15, 21), (0, 9, 18, 13)], Cond.methodLink RL 36 yX1_protect, Cond.instanceMethod yX1_protect, Cond.selects RX1 yX1_protect yX1_protect, Cond.code yX1_protect cX1_protect 3 (some .int), Cond.methodLink RX1 130 yX1_requireToLive, Cond.instanceMethod yX1_requireToLive, Cond.selects RX1 yX1_requireToLive yX1_requireToLive, Cond.code yX1_requireToLive cX1_requireToLive 2 none, Cond.methodLink RL 121 yX2_protect, Cond.instanceMethod yX2_protect, Cond.selects RX2 yX2_protect yX2_protect, Cond.code yX2_protect cX2_protect 3 (some .int), Cond.methodLink RL 122 yL_attack, Cond.static yL_attack, Cond.codeWith yL_attack cL_attack 4 (some .int) [(0, 9, 12, 19), (0, 9, 15, 21), (0, 9, 18, 13)], Cond.methodLink RL 40 yX1_attack]
def wsL_law0_r14 : List Cond := [Cond.instanceMethod yX1_attack, Cond.selects RX1 yX1_attack yX1_attack, Cond.code yX1_attack cX1_attack 3 (some .int), Cond.methodLink RL 124 yX2_attack, Cond.instanceMethod yX2_attack, Cond.selects RX2 yX2_attack yX2_attack, Cond.code yX2_attack cX2_attack 3 (some .int), Cond.methodLink RL 125 yL_look, Cond.static yL_look, Cond.codeWith yL_look cL_look 4 (some .int) [(0, 9, 12, 19), (0, 9, 15, 21), (0, 9, 18, 13)], Cond.methodLink RL 43 yX1_look, Cond.instanceMethod yX1_look, Cond.selects RX1 yX1_look yX1_look, Cond.code yX1_look cX1_look 3 (some .int), Cond.methodLink RL 127 yX2_look, Cond.instanceMethod yX2_look, Cond.selects RX2 yX2_look yX2_look, Cond.code yX2_look cX2_look 3 (some .int), Cond.methodLink RL 128 yL_endNight, Cond.static yL_endNight, Cond.codeWith yL_endNight cL_endNight 3 (some .int) [(0, 8, 11, 19)], Cond.methodLink RL 46 yX1_endNight, Cond.instanceMethod yX1_endNight, Cond.selects RX1 yX1_endNight yX1_endNight]
def wsL_law0_r15 : List Cond := [Cond.code yX1_endNight cX1_endNight 2 (some .int), Cond.methodLink RX1 142 yX1_seerLooks, Cond.instanceMethod yX1_seerLooks, Cond.selects RX1 yX1_seerLooks yX1_seerLooks, Cond.code yX1_seerLooks cX1_seerLooks 1 none, Cond.methodLink RL 130 yX2_endNight, Cond.instanceMethod yX2_endNight, Cond.selects RX2 yX2_endNight yX2_endNight, Cond.code yX2_endNight cX2_endNight 2 (some .int), Cond.methodLink RL 131 yL_day, Cond.static yL_day, Cond.codeWith yL_day cL_day 3 (some .int) [(0, 8, 11, 19)], Cond.methodLink RL 49 yX1_day, Cond.instanceMethod yX1_day, Cond.selects RX1 yX1_day yX1_day, Cond.code yX1_day cX1_day 1 (some .int), Cond.methodLink RL 133 yX2_day, Cond.instanceMethod yX2_day, Cond.selects RX2 yX2_day yX2_day, Cond.code yX2_day cX2_day 1 (some .int), Cond.methodLink RX2 108 yX2_isGame, Cond.instanceMethod yX2_isGame, Cond.selects RX2 yX2_isGame yX2_isGame, Cond.code yX2_isGame cX2_isGame 1 (some .boolean)]
def wsL_law0_r16 : List Cond := [Cond.methodLink RL 134 yL_alive, Cond.static yL_alive, Cond.codeWith yL_alive cL_alive 3 (some .int) [(0, 8, 11, 19)], Cond.methodLink RL 52 yX1_alive, Cond.instanceMethod yX1_alive, Cond.selects RX1 yX1_alive yX1_alive, Cond.code yX1_alive cX1_alive 1 (some .int), Cond.methodLink RL 136 yX2_alive, Cond.instanceMethod yX2_alive, Cond.selects RX2 yX2_alive yX2_alive, Cond.code yX2_alive cX2_alive 1 (some .int), Cond.methodLink RL 137 yL_votesFor, Cond.static yL_votesFor, Cond.codeWith yL_votesFor cL_votesFor 4 (some .int) [(0, 9, 12, 19), (0, 9, 15, 21)], Cond.methodLink RL 55 yX1_votesFor, Cond.instanceMethod yX1_votesFor, Cond.selects RX1 yX1_votesFor yX1_votesFor, Cond.code yX1_votesFor cX1_votesFor 2 (some .int), Cond.methodLink RL 139 yX2_votesFor, Cond.instanceMethod yX2_votesFor, Cond.selects RX2 yX2_votesFor yX2_votesFor, Cond.code yX2_votesFor cX2_votesFor 2 (some .int), Cond.methodLink RL 140 yL_lookedAt, Cond.static yL_lookedAt]
def wsL_law0_r17 : List Cond := [Cond.codeWith yL_lookedAt cL_lookedAt 3 (some .int) [(0, 8, 11, 19)], Cond.methodLink RL 58 yX1_lookedAt, Cond.instanceMethod yX1_lookedAt, Cond.selects RX1 yX1_lookedAt yX1_lookedAt, Cond.code yX1_lookedAt cX1_lookedAt 1 (some .int), Cond.methodLink RL 142 yX2_lookedAt, Cond.instanceMethod yX2_lookedAt, Cond.selects RX2 yX2_lookedAt yX2_lookedAt, Cond.code yX2_lookedAt cX2_lookedAt 1 (some .int), Cond.methodLink RL 143 yL_worlds, Cond.static yL_worlds, Cond.codeWith yL_worlds cL_worlds 4 (some .int) [(0, 9, 12, 19), (0, 9, 15, 21)], Cond.methodLink RL 61 yX1_worlds, Cond.instanceMethod yX1_worlds, Cond.selects RX1 yX1_worlds yX1_worlds, Cond.code yX1_worlds cX1_worlds 2 (some .int), Cond.methodLink RX1 145 yX1_requireViewer, Cond.instanceMethod yX1_requireViewer, Cond.selects RX1 yX1_requireViewer yX1_requireViewer, Cond.code yX1_requireViewer cX1_requireViewer 2 none, Cond.methodLink RL 145 yX2_worlds, Cond.instanceMethod yX2_worlds, Cond.selects RX2 yX2_worlds yX2_worlds, Cond.code yX2_worlds cX2_worlds 2 (some .int)]
def wsL_law0_r18 : List Cond := [Cond.methodLink RX2 118 yX2_asks, Cond.instanceMethod yX2_asks, Cond.selects RX2 yX2_asks yX2_asks, Cond.code yX2_asks cX2_asks 2 (some .boolean), Cond.methodLink RX2 112 yX2_isViewer, Cond.instanceMethod yX2_isViewer, Cond.selects RX2 yX2_isViewer yX2_isViewer, Cond.code yX2_isViewer cX2_isViewer 2 (some .boolean), Cond.methodLink RX2 121 yX2_manyFor, Cond.instanceMethod yX2_manyFor, Cond.selects RX2 yX2_manyFor yX2_manyFor, Cond.code yX2_manyFor cX2_manyFor 4 (some .int), Cond.methodLink RX2 115 yX2_isFor, Cond.instanceMethod yX2_isFor, Cond.selects RX2 yX2_isFor yX2_isFor, Cond.code yX2_isFor cX2_isFor 5 (some .boolean), Cond.methodLink RL 146 yL_worldsWith, Cond.static yL_worldsWith, Cond.codeWith yL_worldsWith cL_worldsWith 6 (some .int) [(0, 12, 15, 19), (0, 12, 19, 21), (0, 12, 23, 13)], Cond.methodLink RL 64 yX1_worldsWith, Cond.instanceMethod yX1_worldsWith, Cond.selects RX1 yX1_worldsWith yX1_worldsWith, Cond.code yX1_worldsWith cX1_worldsWith 4 (some .int), Cond.instanceMethod yX0_countWithRole]
def wsL_law0_r19 : List Cond := [Cond.selects RX0 yX0_countWithRole yX0_countWithRole, Cond.code yX0_countWithRole cX0_countWithRole 8 (some .int), Cond.methodLink RL 148 yX2_worldsWith, Cond.instanceMethod yX2_worldsWith, Cond.selects RX2 yX2_worldsWith yX2_worldsWith, Cond.code yX2_worldsWith cX2_worldsWith 4 (some .int), Cond.methodLink RX2 124 yX2_manyWith, Cond.instanceMethod yX2_manyWith, Cond.selects RX2 yX2_manyWith yX2_manyWith, Cond.code yX2_manyWith cX2_manyWith 6 (some .int), Cond.methodLink RL 149 yL_sureWitches, Cond.static yL_sureWitches, Cond.codeWith yL_sureWitches cL_sureWitches 4 (some .int) [(0, 9, 12, 19), (0, 9, 15, 21)], Cond.methodLink RL 67 yX1_sureWitches, Cond.instanceMethod yX1_sureWitches, Cond.selects RX1 yX1_sureWitches yX1_sureWitches, Cond.code yX1_sureWitches cX1_sureWitches 2 (some .int), Cond.instanceMethod yX0_witchesInAll, Cond.selects RX0 yX0_witchesInAll yX0_witchesInAll, Cond.code yX0_witchesInAll cX0_witchesInAll 4 (some .int), Cond.methodLink RL 151 yX2_sureWitches, Cond.instanceMethod yX2_sureWitches, Cond.selects RX2 yX2_sureWitches yX2_sureWitches, Cond.code yX2_sureWitches cX2_sureWitches 2 (some .int)]
def wsL_law0_r20 : List Cond := [Cond.methodLink RX2 128 yX2_inSome, Cond.instanceMethod yX2_inSome, Cond.selects RX2 yX2_inSome yX2_inSome, Cond.code yX2_inSome cX2_inSome 5 (some .int), Cond.methodLink RL 152 yL_sureHonest, Cond.static yL_sureHonest, Cond.codeWith yL_sureHonest cL_sureHonest 4 (some .int) [(0, 9, 12, 19), (0, 9, 15, 21)], Cond.methodLink RL 70 yX1_sureHonest, Cond.instanceMethod yX1_sureHonest, Cond.selects RX1 yX1_sureHonest yX1_sureHonest, Cond.code yX1_sureHonest cX1_sureHonest 2 (some .int), Cond.instanceMethod yX0_witchesInAny, Cond.selects RX0 yX0_witchesInAny yX0_witchesInAny, Cond.code yX0_witchesInAny cX0_witchesInAny 4 (some .int), Cond.methodLink RL 154 yX2_sureHonest, Cond.instanceMethod yX2_sureHonest, Cond.selects RX2 yX2_sureHonest yX2_sureHonest, Cond.code yX2_sureHonest cX2_sureHonest 2 (some .int), Cond.methodLink RL 155 yL_witchSets, Cond.static yL_witchSets, Cond.codeWith yL_witchSets cL_witchSets 4 (some .int) [(0, 9, 12, 19), (0, 9, 15, 21)], Cond.methodLink RL 73 yX1_witchSets, Cond.instanceMethod yX1_witchSets, Cond.selects RX1 yX1_witchSets yX1_witchSets]
def wsL_law0_r21 : List Cond := [Cond.code yX1_witchSets cX1_witchSets 2 (some .int), Cond.instanceMethod yX0_countWitchSets, Cond.selects RX0 yX0_countWitchSets yX0_countWitchSets, Cond.code yX0_countWitchSets cX0_countWitchSets 5 (some .int), Cond.methodLink RL 157 yX2_witchSets, Cond.instanceMethod yX2_witchSets, Cond.selects RX2 yX2_witchSets yX2_witchSets, Cond.code yX2_witchSets cX2_witchSets 6 (some .int), Cond.methodLink RL 158 yL_suspect, Cond.static yL_suspect, Cond.codeWith yL_suspect cL_suspect 4 (some .int) [(0, 9, 12, 19), (0, 9, 15, 21)], Cond.methodLink RL 76 yX1_suspect, Cond.instanceMethod yX1_suspect, Cond.selects RX1 yX1_suspect yX1_suspect, Cond.code yX1_suspect cX1_suspect 7 (some .int), Cond.methodLink RL 160 yX2_suspect, Cond.instanceMethod yX2_suspect, Cond.selects RX2 yX2_suspect yX2_suspect, Cond.code yX2_suspect cX2_suspect 4 (some .int), Cond.methodLink RX2 132 yX2_laysWitches, Cond.instanceMethod yX2_laysWitches, Cond.selects RX2 yX2_laysWitches yX2_laysWitches, Cond.code yX2_laysWitches cX2_laysWitches 3 none, Cond.methodLink RL 161 yL_bestLook]
def wsL_law0_r22 : List Cond := [Cond.static yL_bestLook, Cond.codeWith yL_bestLook cL_bestLook 3 (some .int) [(0, 8, 11, 19)], Cond.methodLink RL 79 yX1_bestLook, Cond.instanceMethod yX1_bestLook, Cond.selects RX1 yX1_bestLook yX1_bestLook, Cond.code yX1_bestLook cX1_bestLook 8 (some .int), Cond.methodLink RX1 162 Lib.Math.max.name, Cond.static Lib.Math.max.name, Cond.initialized "java/lang/Math", Cond.code Lib.Math.max.name Lib.Math.max.code 2 (some .int), Cond.methodLink RL 163 yX2_bestLook, Cond.instanceMethod yX2_bestLook, Cond.selects RX2 yX2_bestLook yX2_bestLook, Cond.code yX2_bestLook cX2_bestLook 6 (some .int), Cond.methodLink RL 164 yL_isPossible, Cond.static yL_isPossible, Cond.codeWith yL_isPossible cL_isPossible 7 (some .int) [(0, 21, 24, 19), (0, 21, 28, 21)], Cond.methodLink RL 82 yX1_isPossible, Cond.instanceMethod yX1_isPossible, Cond.selects RX1 yX1_isPossible yX1_isPossible, Cond.code yX1_isPossible cX1_isPossible 5 (some .boolean), Cond.instanceMethod yX0_contains, Cond.selects RX0 yX0_contains yX0_contains, Cond.code yX0_contains cX0_contains 4 (some .boolean)]
def wsL_law0_r23 : List Cond := [Cond.methodLink RL 166 yX2_isPossible, Cond.instanceMethod yX2_isPossible, Cond.selects RX2 yX2_isPossible yX2_isPossible, Cond.code yX2_isPossible cX2_isPossible 6 (some .boolean)]
def wsL_law0 : List Cond := (wsL_law0_r1 ++ (wsL_law0_r2 ++ (wsL_law0_r3 ++ (wsL_law0_r4 ++ (wsL_law0_r5 ++ (wsL_law0_r6 ++ (wsL_law0_r7 ++ (wsL_law0_r8 ++ (wsL_law0_r9 ++ (wsL_law0_r10 ++ (wsL_law0_r11 ++ (wsL_law0_r12 ++ (wsL_law0_r13 ++ (wsL_law0_r14 ++ (wsL_law0_r15 ++ (wsL_law0_r16 ++ (wsL_law0_r17 ++ (wsL_law0_r18 ++ (wsL_law0_r19 ++ (wsL_law0_r20 ++ (wsL_law0_r21 ++ (wsL_law0_r22 ++ wsL_law0_r23)))))))))))))))))))))) ++ wsX10 ++ wsX20 ++ wsX00 ++ ([] : List Cond)
def wsL_law : List Cond := wsL_law0 ++ (vx_atS RX1 44 "java/lang/IllegalArgumentException" ["java/lang/RuntimeException", "java/lang/Exception"]).filter goodWord ++ (vx_atS RX1 175 "java/lang/IllegalStateException" ["java/lang/RuntimeException", "java/lang/Exception"]).filter goodWord ++ (vx_atS RX1 184 "java/lang/IndexOutOfBoundsException" ["java/lang/RuntimeException", "java/lang/Exception"]).filter goodWord ++ (vx_atS RX1 205 "java/util/NoSuchElementException" ["java/lang/RuntimeException", "java/lang/Exception"]).filter goodWord
abbrev vwCl : List vw_C := [(RX0, TX0, 2), (RX1, TX1, 14), (RX2, TX2, 16)]
end
section
theorem dX0_init_0 : decode cX0_init 0 = .ok (.aload_n 0, 1) := by decide +kernel
theorem dX0_init_1 : decode cX0_init 1 = .ok (.invokespecial 3, 3) := by decide +kernel
theorem dX0_init_4 : decode cX0_init 4 = .ok (.aload_n 0, 1) := by decide +kernel
theorem dX0_init_5 : decode cX0_init 5 = .ok (.sipush 1120, 3) := by decide +kernel
theorem dX0_init_8 : decode cX0_init 8 = .ok (.newarray .int, 2) := by decide +kernel
theorem dX0_init_10 : decode cX0_init 10 = .ok (.putfield 11, 3) := by decide +kernel
theorem dX0_init_13 : decode cX0_init 13 = .ok (.return_, 1) := by decide +kernel
set_option maxRecDepth 20000 in
theorem ggX0_open_J7_fill_53178 : GoodIn wsX0_open wsJ7_fill_53178 := goodIn_r _ [6] (by decide +kernel) (by decide +kernel)
set_option maxRecDepth 20000 in
theorem gX0_open_J7_fill_53178 : GoodIn wsX0_open (va_wsS RX0 19 yJ7_fill_53178 wsJ7_fill_53178) := goodIn_app (goodIn_of _ (by decide +kernel)) ggX0_open_J7_fill_53178
set_option maxRecDepth 20000 in
theorem ggX0_open_X1_witchesOf : GoodIn wsX0_open wsX1_witchesOf := goodIn_r _ [9] (by decide +kernel) (by decide +kernel)
set_option maxRecDepth 20000 in
theorem gX0_open_X1_witchesOf_n25 : GoodIn wsX0_open (wsX1_witchesOf) := ggX0_open_X1_witchesOf
set_option maxRecDepth 20000 in
theorem ggX0_open_J6_bitCount_0f7a4 : GoodIn wsX0_open wsJ6_bitCount_0f7a4 := goodIn_r _ [13, 14, 15, 16] (by decide +kernel) (by decide +kernel)
set_option maxRecDepth 20000 in
theorem gX0_open_J6_bitCount_0f7a4 : GoodIn wsX0_open (va_wsS RX0 29 yJ6_bitCount_0f7a4 wsJ6_bitCount_0f7a4) := goodIn_app (goodIn_of _ (by decide +kernel)) ggX0_open_J6_bitCount_0f7a4
set_option maxRecDepth 20000 in
theorem ggX0_open_X1_everyone : GoodIn wsX0_open wsX1_everyone := goodIn_r _ [18] (by decide +kernel) (by decide +kernel)
set_option maxRecDepth 20000 in
theorem gX0_open_X1_everyone_n34 : GoodIn wsX0_open (wsX1_everyone) := ggX0_open_X1_everyone
set_option maxRecDepth 20000 in
theorem ggX0_open_X0_addWorlds : GoodIn wsX0_open wsX0_addWorlds := goodIn_r _ [23, 2, 24, 8, 25, 26, 27, 28, 29, 30, 31, 32] (by decide +kernel) (by decide +kernel)
set_option maxRecDepth 20000 in
theorem gX0_open_X0_addWorlds : GoodIn wsX0_open (wsV RX0 37 RX0 yX0_addWorlds wsX0_addWorlds) := goodIn_app (goodIn_of _ (by decide +kernel)) ggX0_open_X0_addWorlds
theorem dX0_open_0 : decode cX0_open 0 = .ok (.aload_n 0, 1) := by decide +kernel
theorem dX0_open_1 : decode cX0_open 1 = .ok (.iload_n 2, 1) := by decide +kernel
theorem dX0_open_2 : decode cX0_open 2 = .ok (.putfield 15, 3) := by decide +kernel
theorem dX0_open_5 : decode cX0_open 5 = .ok (.aload_n 0, 1) := by decide +kernel
theorem dX0_open_6 : decode cX0_open 6 = .ok (.getfield 11, 3) := by decide +kernel
theorem dX0_open_9 : decode cX0_open 9 = .ok (.iconst 0, 1) := by decide +kernel
theorem dX0_open_10 : decode cX0_open 10 = .ok (.invokestatic 19, 3) := by decide +kernel
theorem dX0_open_13 : decode cX0_open 13 = .ok (.iload_n 2, 1) := by decide +kernel
theorem dX0_open_14 : decode cX0_open 14 = .ok (.invokestatic 25, 3) := by decide +kernel
theorem dX0_open_17 : decode cX0_open 17 = .ok (.invokestatic 29, 3) := by decide +kernel
theorem dX0_open_20 : decode cX0_open 20 = .ok (.istore_n 3, 1) := by decide +kernel
theorem dX0_open_21 : decode cX0_open 21 = .ok (.iconst 0, 1) := by decide +kernel
theorem dX0_open_22 : decode cX0_open 22 = .ok (.istore 4, 2) := by decide +kernel
theorem dX0_open_24 : decode cX0_open 24 = .ok (.iconst 1, 1) := by decide +kernel
theorem dX0_open_25 : decode cX0_open 25 = .ok (.istore 5, 2) := by decide +kernel
theorem dX0_open_27 : decode cX0_open 27 = .ok (.iload 5, 2) := by decide +kernel
theorem dX0_open_29 : decode cX0_open 29 = .ok (.iload_n 1, 1) := by decide +kernel
theorem dX0_open_30 : decode cX0_open 30 = .ok (.invokestatic 34, 3) := by decide +kernel
theorem dX0_open_33 : decode cX0_open 33 = .ok (.if_icmp .gt 29, 3) := by decide +kernel
theorem dX0_open_36 : decode cX0_open 36 = .ok (.iload 5, 2) := by decide +kernel
theorem dX0_open_38 : decode cX0_open 38 = .ok (.invokestatic 29, 3) := by decide +kernel
theorem dX0_open_41 : decode cX0_open 41 = .ok (.iload_n 3, 1) := by decide +kernel
theorem dX0_open_42 : decode cX0_open 42 = .ok (.if_icmp .ne 14, 3) := by decide +kernel
theorem dX0_open_45 : decode cX0_open 45 = .ok (.aload_n 0, 1) := by decide +kernel
theorem dX0_open_46 : decode cX0_open 46 = .ok (.iload_n 1, 1) := by decide +kernel
theorem dX0_open_47 : decode cX0_open 47 = .ok (.iload 5, 2) := by decide +kernel
theorem dX0_open_49 : decode cX0_open 49 = .ok (.iload 4, 2) := by decide +kernel
theorem dX0_open_51 : decode cX0_open 51 = .ok (.invokevirtual 37, 3) := by decide +kernel
theorem dX0_open_54 : decode cX0_open 54 = .ok (.istore 4, 2) := by decide +kernel
theorem dX0_open_56 : decode cX0_open 56 = .ok (.iinc 5 1, 3) := by decide +kernel
theorem dX0_open_59 : decode cX0_open 59 = .ok (.goto (-32), 3) := by decide +kernel
theorem dX0_open_62 : decode cX0_open 62 = .ok (.return_, 1) := by decide +kernel
set_option maxRecDepth 20000 in
theorem ggX0_addWorlds_X1_isHonestIn : GoodIn wsX0_addWorlds wsX1_isHonestIn := goodIn_r _ [4, 5, 6, 3, 7] (by decide +kernel) (by decide +kernel)
set_option maxRecDepth 20000 in
theorem gX0_addWorlds_X1_isHonestIn_n41 : GoodIn wsX0_addWorlds (wsX1_isHonestIn) := ggX0_addWorlds_X1_isHonestIn
set_option maxRecDepth 20000 in
theorem ggX0_addWorlds_X1_worldOf : GoodIn wsX0_addWorlds wsX1_worldOf := goodIn_r _ [9, 5, 6, 3, 7] (by decide +kernel) (by decide +kernel)
set_option maxRecDepth 20000 in
theorem gX0_addWorlds_X1_worldOf_n45 : GoodIn wsX0_addWorlds (wsX1_worldOf) := ggX0_addWorlds_X1_worldOf
theorem dX0_addWorlds_0 : decode cX0_addWorlds 0 = .ok (.iload_n 3, 1) := by decide +kernel
theorem dX0_addWorlds_1 : decode cX0_addWorlds 1 = .ok (.istore 4, 2) := by decide +kernel
theorem dX0_addWorlds_3 : decode cX0_addWorlds 3 = .ok (.iconst 0, 1) := by decide +kernel
theorem dX0_addWorlds_4 : decode cX0_addWorlds 4 = .ok (.istore 5, 2) := by decide +kernel
theorem dX0_addWorlds_6 : decode cX0_addWorlds 6 = .ok (.iload 5, 2) := by decide +kernel
theorem dX0_addWorlds_8 : decode cX0_addWorlds 8 = .ok (.iload_n 1, 1) := by decide +kernel
theorem dX0_addWorlds_9 : decode cX0_addWorlds 9 = .ok (.if_icmp .ge 96, 3) := by decide +kernel
theorem dX0_addWorlds_12 : decode cX0_addWorlds 12 = .ok (.iconst 0, 1) := by decide +kernel
theorem dX0_addWorlds_13 : decode cX0_addWorlds 13 = .ok (.istore 6, 2) := by decide +kernel
theorem dX0_addWorlds_15 : decode cX0_addWorlds 15 = .ok (.iload 6, 2) := by decide +kernel
theorem dX0_addWorlds_17 : decode cX0_addWorlds 17 = .ok (.iload_n 1, 1) := by decide +kernel
theorem dX0_addWorlds_18 : decode cX0_addWorlds 18 = .ok (.if_icmp .ge 81, 3) := by decide +kernel
theorem dX0_addWorlds_21 : decode cX0_addWorlds 21 = .ok (.iload 5, 2) := by decide +kernel
theorem dX0_addWorlds_23 : decode cX0_addWorlds 23 = .ok (.iload 6, 2) := by decide +kernel
theorem dX0_addWorlds_25 : decode cX0_addWorlds 25 = .ok (.if_icmp .eq 27, 3) := by decide +kernel
theorem dX0_addWorlds_28 : decode cX0_addWorlds 28 = .ok (.iload_n 1, 1) := by decide +kernel
theorem dX0_addWorlds_29 : decode cX0_addWorlds 29 = .ok (.iload_n 2, 1) := by decide +kernel
theorem dX0_addWorlds_30 : decode cX0_addWorlds 30 = .ok (.iload 5, 2) := by decide +kernel
theorem dX0_addWorlds_32 : decode cX0_addWorlds 32 = .ok (.invokestatic 41, 3) := by decide +kernel
theorem dX0_addWorlds_35 : decode cX0_addWorlds 35 = .ok (.ifCond .eq 17, 3) := by decide +kernel
theorem dX0_addWorlds_38 : decode cX0_addWorlds 38 = .ok (.iload_n 1, 1) := by decide +kernel
theorem dX0_addWorlds_39 : decode cX0_addWorlds 39 = .ok (.iload_n 2, 1) := by decide +kernel
theorem dX0_addWorlds_40 : decode cX0_addWorlds 40 = .ok (.iload 6, 2) := by decide +kernel
theorem dX0_addWorlds_42 : decode cX0_addWorlds 42 = .ok (.invokestatic 41, 3) := by decide +kernel
theorem dX0_addWorlds_45 : decode cX0_addWorlds 45 = .ok (.ifCond .eq 7, 3) := by decide +kernel
theorem dX0_addWorlds_48 : decode cX0_addWorlds 48 = .ok (.iconst 1, 1) := by decide +kernel
theorem dX0_addWorlds_49 : decode cX0_addWorlds 49 = .ok (.goto 4, 3) := by decide +kernel
theorem dX0_addWorlds_52 : decode cX0_addWorlds 52 = .ok (.iconst 0, 1) := by decide +kernel
theorem dX0_addWorlds_53 : decode cX0_addWorlds 53 = .ok (.istore 7, 2) := by decide +kernel
theorem dX0_addWorlds_55 : decode cX0_addWorlds 55 = .ok (.iload 7, 2) := by decide +kernel
theorem dX0_addWorlds_57 : decode cX0_addWorlds 57 = .ok (.ifCond .eq 36, 3) := by decide +kernel
theorem dX0_addWorlds_60 : decode cX0_addWorlds 60 = .ok (.iload 4, 2) := by decide +kernel
theorem dX0_addWorlds_62 : decode cX0_addWorlds 62 = .ok (.ifCond .lt 31, 3) := by decide +kernel
theorem dX0_addWorlds_65 : decode cX0_addWorlds 65 = .ok (.iload 4, 2) := by decide +kernel
theorem dX0_addWorlds_67 : decode cX0_addWorlds 67 = .ok (.aload_n 0, 1) := by decide +kernel
theorem dX0_addWorlds_68 : decode cX0_addWorlds 68 = .ok (.getfield 11, 3) := by decide +kernel
theorem dX0_addWorlds_71 : decode cX0_addWorlds 71 = .ok (.arraylength, 1) := by decide +kernel
theorem dX0_addWorlds_72 : decode cX0_addWorlds 72 = .ok (.if_icmp .ge 21, 3) := by decide +kernel
theorem dX0_addWorlds_75 : decode cX0_addWorlds 75 = .ok (.aload_n 0, 1) := by decide +kernel
theorem dX0_addWorlds_76 : decode cX0_addWorlds 76 = .ok (.getfield 11, 3) := by decide +kernel
theorem dX0_addWorlds_79 : decode cX0_addWorlds 79 = .ok (.iload 4, 2) := by decide +kernel
theorem dX0_addWorlds_81 : decode cX0_addWorlds 81 = .ok (.iload_n 2, 1) := by decide +kernel
theorem dX0_addWorlds_82 : decode cX0_addWorlds 82 = .ok (.iload 5, 2) := by decide +kernel
theorem dX0_addWorlds_84 : decode cX0_addWorlds 84 = .ok (.iload 6, 2) := by decide +kernel
theorem dX0_addWorlds_86 : decode cX0_addWorlds 86 = .ok (.invokestatic 45, 3) := by decide +kernel
theorem dX0_addWorlds_89 : decode cX0_addWorlds 89 = .ok (.iastore, 1) := by decide +kernel
theorem dX0_addWorlds_90 : decode cX0_addWorlds 90 = .ok (.iinc 4 1, 3) := by decide +kernel
theorem dX0_addWorlds_93 : decode cX0_addWorlds 93 = .ok (.iinc 6 1, 3) := by decide +kernel
theorem dX0_addWorlds_96 : decode cX0_addWorlds 96 = .ok (.goto (-81), 3) := by decide +kernel
theorem dX0_addWorlds_99 : decode cX0_addWorlds 99 = .ok (.iinc 5 1, 3) := by decide +kernel
theorem dX0_addWorlds_102 : decode cX0_addWorlds 102 = .ok (.goto (-96), 3) := by decide +kernel
theorem dX0_addWorlds_105 : decode cX0_addWorlds 105 = .ok (.iload 4, 2) := by decide +kernel
theorem dX0_addWorlds_107 : decode cX0_addWorlds 107 = .ok (.ireturn, 1) := by decide +kernel
set_option maxRecDepth 20000 in
theorem ggX0_agreesWithClaim_X1_setOf : GoodIn wsX0_agreesWithClaim wsX1_setOf := goodIn_r _ [3] (by decide +kernel) (by decide +kernel)
set_option maxRecDepth 20000 in
theorem gX0_agreesWithClaim_X1_setOf_n48 : GoodIn wsX0_agreesWithClaim (wsX1_setOf) := ggX0_agreesWithClaim_X1_setOf
theorem dX0_agreesWithClaim_0 : decode cX0_agreesWithClaim 0 = .ok (.iload_n 0, 1) := by decide +kernel
theorem dX0_agreesWithClaim_1 : decode cX0_agreesWithClaim 1 = .ok (.iload_n 1, 1) := by decide +kernel
theorem dX0_agreesWithClaim_2 : decode cX0_agreesWithClaim 2 = .ok (.invokestatic 48, 3) := by decide +kernel
theorem dX0_agreesWithClaim_5 : decode cX0_agreesWithClaim 5 = .ok (.iand, 1) := by decide +kernel
theorem dX0_agreesWithClaim_6 : decode cX0_agreesWithClaim 6 = .ok (.ifCond .ne 18, 3) := by decide +kernel
theorem dX0_agreesWithClaim_9 : decode cX0_agreesWithClaim 9 = .ok (.iload_n 0, 1) := by decide +kernel
theorem dX0_agreesWithClaim_10 : decode cX0_agreesWithClaim 10 = .ok (.iload_n 2, 1) := by decide +kernel
theorem dX0_agreesWithClaim_11 : decode cX0_agreesWithClaim 11 = .ok (.iand, 1) := by decide +kernel
theorem dX0_agreesWithClaim_12 : decode cX0_agreesWithClaim 12 = .ok (.ifCond .eq 7, 3) := by decide +kernel
theorem dX0_agreesWithClaim_15 : decode cX0_agreesWithClaim 15 = .ok (.iconst 1, 1) := by decide +kernel
theorem dX0_agreesWithClaim_16 : decode cX0_agreesWithClaim 16 = .ok (.goto 4, 3) := by decide +kernel
theorem dX0_agreesWithClaim_19 : decode cX0_agreesWithClaim 19 = .ok (.iconst 0, 1) := by decide +kernel
theorem dX0_agreesWithClaim_20 : decode cX0_agreesWithClaim 20 = .ok (.iload_n 3, 1) := by decide +kernel
theorem dX0_agreesWithClaim_21 : decode cX0_agreesWithClaim 21 = .ok (.if_icmp .ne 7, 3) := by decide +kernel
theorem dX0_agreesWithClaim_24 : decode cX0_agreesWithClaim 24 = .ok (.iconst 1, 1) := by decide +kernel
theorem dX0_agreesWithClaim_25 : decode cX0_agreesWithClaim 25 = .ok (.goto 4, 3) := by decide +kernel
theorem dX0_agreesWithClaim_28 : decode cX0_agreesWithClaim 28 = .ok (.iconst 0, 1) := by decide +kernel
theorem dX0_agreesWithClaim_29 : decode cX0_agreesWithClaim 29 = .ok (.ireturn, 1) := by decide +kernel
set_option maxRecDepth 20000 in
theorem ggX0_allowsClaim_X0_agreesWithClaim : GoodIn wsX0_allowsClaim wsX0_agreesWithClaim := goodIn_r _ [5, 6, 7, 8] (by decide +kernel) (by decide +kernel)
set_option maxRecDepth 20000 in
theorem gX0_allowsClaim_X0_agreesWithClaim : GoodIn wsX0_allowsClaim (va_wsS RX0 51 yX0_agreesWithClaim wsX0_agreesWithClaim) := goodIn_app (goodIn_of _ (by decide +kernel)) ggX0_allowsClaim_X0_agreesWithClaim
theorem dX0_allowsClaim_0 : decode cX0_allowsClaim 0 = .ok (.aload_n 0, 1) := by decide +kernel
theorem dX0_allowsClaim_1 : decode cX0_allowsClaim 1 = .ok (.getfield 15, 3) := by decide +kernel
theorem dX0_allowsClaim_4 : decode cX0_allowsClaim 4 = .ok (.iload_n 1, 1) := by decide +kernel
theorem dX0_allowsClaim_5 : decode cX0_allowsClaim 5 = .ok (.iload_n 2, 1) := by decide +kernel
theorem dX0_allowsClaim_6 : decode cX0_allowsClaim 6 = .ok (.iload_n 3, 1) := by decide +kernel
theorem dX0_allowsClaim_7 : decode cX0_allowsClaim 7 = .ok (.invokestatic 51, 3) := by decide +kernel
theorem dX0_allowsClaim_10 : decode cX0_allowsClaim 10 = .ok (.ireturn, 1) := by decide +kernel
set_option maxRecDepth 20000 in
theorem ggX0_keepClaim_X0_agreesWithClaim : GoodIn wsX0_keepClaim wsX0_agreesWithClaim := goodIn_r _ [5, 6, 7, 8] (by decide +kernel) (by decide +kernel)
set_option maxRecDepth 20000 in
theorem gX0_keepClaim_X0_agreesWithClaim : GoodIn wsX0_keepClaim (va_wsS RX0 51 yX0_agreesWithClaim wsX0_agreesWithClaim) := goodIn_app (goodIn_of _ (by decide +kernel)) ggX0_keepClaim_X0_agreesWithClaim
theorem dX0_keepClaim_0 : decode cX0_keepClaim 0 = .ok (.iconst 0, 1) := by decide +kernel
theorem dX0_keepClaim_1 : decode cX0_keepClaim 1 = .ok (.istore 4, 2) := by decide +kernel
theorem dX0_keepClaim_3 : decode cX0_keepClaim 3 = .ok (.iconst 0, 1) := by decide +kernel
theorem dX0_keepClaim_4 : decode cX0_keepClaim 4 = .ok (.istore 5, 2) := by decide +kernel
theorem dX0_keepClaim_6 : decode cX0_keepClaim 6 = .ok (.iload 5, 2) := by decide +kernel
theorem dX0_keepClaim_8 : decode cX0_keepClaim 8 = .ok (.aload_n 0, 1) := by decide +kernel
theorem dX0_keepClaim_9 : decode cX0_keepClaim 9 = .ok (.getfield 11, 3) := by decide +kernel
theorem dX0_keepClaim_12 : decode cX0_keepClaim 12 = .ok (.arraylength, 1) := by decide +kernel
theorem dX0_keepClaim_13 : decode cX0_keepClaim 13 = .ok (.if_icmp .ge 59, 3) := by decide +kernel
theorem dX0_keepClaim_16 : decode cX0_keepClaim 16 = .ok (.aload_n 0, 1) := by decide +kernel
theorem dX0_keepClaim_17 : decode cX0_keepClaim 17 = .ok (.getfield 11, 3) := by decide +kernel
theorem dX0_keepClaim_20 : decode cX0_keepClaim 20 = .ok (.iload 5, 2) := by decide +kernel
theorem dX0_keepClaim_22 : decode cX0_keepClaim 22 = .ok (.iaload, 1) := by decide +kernel
theorem dX0_keepClaim_23 : decode cX0_keepClaim 23 = .ok (.ifCond .eq 49, 3) := by decide +kernel
theorem dX0_keepClaim_26 : decode cX0_keepClaim 26 = .ok (.aload_n 0, 1) := by decide +kernel
theorem dX0_keepClaim_27 : decode cX0_keepClaim 27 = .ok (.getfield 11, 3) := by decide +kernel
theorem dX0_keepClaim_30 : decode cX0_keepClaim 30 = .ok (.iload 5, 2) := by decide +kernel
theorem dX0_keepClaim_32 : decode cX0_keepClaim 32 = .ok (.iaload, 1) := by decide +kernel
theorem dX0_keepClaim_33 : decode cX0_keepClaim 33 = .ok (.istore 6, 2) := by decide +kernel
theorem dX0_keepClaim_35 : decode cX0_keepClaim 35 = .ok (.aload_n 0, 1) := by decide +kernel
theorem dX0_keepClaim_36 : decode cX0_keepClaim 36 = .ok (.getfield 11, 3) := by decide +kernel
theorem dX0_keepClaim_39 : decode cX0_keepClaim 39 = .ok (.iload 5, 2) := by decide +kernel
theorem dX0_keepClaim_41 : decode cX0_keepClaim 41 = .ok (.iconst 0, 1) := by decide +kernel
theorem dX0_keepClaim_42 : decode cX0_keepClaim 42 = .ok (.iastore, 1) := by decide +kernel
theorem dX0_keepClaim_43 : decode cX0_keepClaim 43 = .ok (.iload 6, 2) := by decide +kernel
theorem dX0_keepClaim_45 : decode cX0_keepClaim 45 = .ok (.iload_n 1, 1) := by decide +kernel
theorem dX0_keepClaim_46 : decode cX0_keepClaim 46 = .ok (.iload_n 2, 1) := by decide +kernel
theorem dX0_keepClaim_47 : decode cX0_keepClaim 47 = .ok (.iload_n 3, 1) := by decide +kernel
theorem dX0_keepClaim_48 : decode cX0_keepClaim 48 = .ok (.invokestatic 51, 3) := by decide +kernel
theorem dX0_keepClaim_51 : decode cX0_keepClaim 51 = .ok (.ifCond .eq 15, 3) := by decide +kernel
theorem dX0_keepClaim_54 : decode cX0_keepClaim 54 = .ok (.aload_n 0, 1) := by decide +kernel
theorem dX0_keepClaim_55 : decode cX0_keepClaim 55 = .ok (.getfield 11, 3) := by decide +kernel
theorem dX0_keepClaim_58 : decode cX0_keepClaim 58 = .ok (.iload 4, 2) := by decide +kernel
theorem dX0_keepClaim_60 : decode cX0_keepClaim 60 = .ok (.iload 6, 2) := by decide +kernel
theorem dX0_keepClaim_62 : decode cX0_keepClaim 62 = .ok (.iastore, 1) := by decide +kernel
theorem dX0_keepClaim_63 : decode cX0_keepClaim 63 = .ok (.iinc 4 1, 3) := by decide +kernel
theorem dX0_keepClaim_66 : decode cX0_keepClaim 66 = .ok (.iinc 5 1, 3) := by decide +kernel
theorem dX0_keepClaim_69 : decode cX0_keepClaim 69 = .ok (.goto (-63), 3) := by decide +kernel
theorem dX0_keepClaim_72 : decode cX0_keepClaim 72 = .ok (.return_, 1) := by decide +kernel
theorem dX0_agrees_0 : decode cX0_agrees 0 = .ok (.iload_n 1, 1) := by decide +kernel
theorem dX0_agrees_1 : decode cX0_agrees 1 = .ok (.aload_n 0, 1) := by decide +kernel
theorem dX0_agrees_2 : decode cX0_agrees 2 = .ok (.getfield 15, 3) := by decide +kernel
theorem dX0_agrees_5 : decode cX0_agrees 5 = .ok (.ixor, 1) := by decide +kernel
theorem dX0_agrees_6 : decode cX0_agrees 6 = .ok (.iload_n 2, 1) := by decide +kernel
theorem dX0_agrees_7 : decode cX0_agrees 7 = .ok (.iand, 1) := by decide +kernel
theorem dX0_agrees_8 : decode cX0_agrees 8 = .ok (.ifCond .ne 7, 3) := by decide +kernel
theorem dX0_agrees_11 : decode cX0_agrees 11 = .ok (.iconst 1, 1) := by decide +kernel
theorem dX0_agrees_12 : decode cX0_agrees 12 = .ok (.goto 4, 3) := by decide +kernel
theorem dX0_agrees_15 : decode cX0_agrees 15 = .ok (.iconst 0, 1) := by decide +kernel
theorem dX0_agrees_16 : decode cX0_agrees 16 = .ok (.ireturn, 1) := by decide +kernel
set_option maxRecDepth 20000 in
theorem ggX0_count_X0_agrees : GoodIn wsX0_count wsX0_agrees := goodIn_r _ [6, 7, 8, 9] (by decide +kernel) (by decide +kernel)
set_option maxRecDepth 20000 in
theorem gX0_count_X0_agrees : GoodIn wsX0_count (wsV RX0 55 RX0 yX0_agrees wsX0_agrees) := goodIn_app (goodIn_of _ (by decide +kernel)) ggX0_count_X0_agrees
theorem dX0_count_0 : decode cX0_count 0 = .ok (.iconst 0, 1) := by decide +kernel
theorem dX0_count_1 : decode cX0_count 1 = .ok (.istore_n 2, 1) := by decide +kernel
theorem dX0_count_2 : decode cX0_count 2 = .ok (.iconst 0, 1) := by decide +kernel
theorem dX0_count_3 : decode cX0_count 3 = .ok (.istore_n 3, 1) := by decide +kernel
theorem dX0_count_4 : decode cX0_count 4 = .ok (.iload_n 3, 1) := by decide +kernel
theorem dX0_count_5 : decode cX0_count 5 = .ok (.aload_n 0, 1) := by decide +kernel
theorem dX0_count_6 : decode cX0_count 6 = .ok (.getfield 11, 3) := by decide +kernel
theorem dX0_count_9 : decode cX0_count 9 = .ok (.arraylength, 1) := by decide +kernel
theorem dX0_count_10 : decode cX0_count 10 = .ok (.if_icmp .ge 35, 3) := by decide +kernel
theorem dX0_count_13 : decode cX0_count 13 = .ok (.aload_n 0, 1) := by decide +kernel
theorem dX0_count_14 : decode cX0_count 14 = .ok (.getfield 11, 3) := by decide +kernel
theorem dX0_count_17 : decode cX0_count 17 = .ok (.iload_n 3, 1) := by decide +kernel
theorem dX0_count_18 : decode cX0_count 18 = .ok (.iaload, 1) := by decide +kernel
theorem dX0_count_19 : decode cX0_count 19 = .ok (.ifCond .eq 26, 3) := by decide +kernel
theorem dX0_count_22 : decode cX0_count 22 = .ok (.aload_n 0, 1) := by decide +kernel
theorem dX0_count_23 : decode cX0_count 23 = .ok (.aload_n 0, 1) := by decide +kernel
theorem dX0_count_24 : decode cX0_count 24 = .ok (.getfield 11, 3) := by decide +kernel
theorem dX0_count_27 : decode cX0_count 27 = .ok (.iload_n 3, 1) := by decide +kernel
theorem dX0_count_28 : decode cX0_count 28 = .ok (.iaload, 1) := by decide +kernel
theorem dX0_count_29 : decode cX0_count 29 = .ok (.iload_n 1, 1) := by decide +kernel
theorem dX0_count_30 : decode cX0_count 30 = .ok (.invokevirtual 55, 3) := by decide +kernel
theorem dX0_count_33 : decode cX0_count 33 = .ok (.ifCond .eq 6, 3) := by decide +kernel
theorem dX0_count_36 : decode cX0_count 36 = .ok (.iinc 2 1, 3) := by decide +kernel
theorem dX0_count_39 : decode cX0_count 39 = .ok (.iinc 3 1, 3) := by decide +kernel
theorem dX0_count_42 : decode cX0_count 42 = .ok (.goto (-38), 3) := by decide +kernel
theorem dX0_count_45 : decode cX0_count 45 = .ok (.iload_n 2, 1) := by decide +kernel
theorem dX0_count_46 : decode cX0_count 46 = .ok (.ireturn, 1) := by decide +kernel
set_option maxRecDepth 20000 in
theorem ggX0_countWithRole_X1_setOf : GoodIn wsX0_countWithRole wsX1_setOf := goodIn_r _ [4] (by decide +kernel) (by decide +kernel)
set_option maxRecDepth 20000 in
theorem gX0_countWithRole_X1_setOf_n48 : GoodIn wsX0_countWithRole (wsX1_setOf) := ggX0_countWithRole_X1_setOf
set_option maxRecDepth 20000 in
theorem ggX0_countWithRole_X1_roleBits : GoodIn wsX0_countWithRole wsX1_roleBits := goodIn_r _ [6] (by decide +kernel) (by decide +kernel)
set_option maxRecDepth 20000 in
theorem gX0_countWithRole_X1_roleBits_n59 : GoodIn wsX0_countWithRole (wsX1_roleBits) := ggX0_countWithRole_X1_roleBits
set_option maxRecDepth 20000 in
theorem ggX0_countWithRole_X1_bitOfRole : GoodIn wsX0_countWithRole wsX1_bitOfRole := goodIn_r _ [8, 9, 2, 3, 4] (by decide +kernel) (by decide +kernel)
set_option maxRecDepth 20000 in
theorem gX0_countWithRole_X1_bitOfRole_n62 : GoodIn wsX0_countWithRole (wsX1_bitOfRole) := ggX0_countWithRole_X1_bitOfRole
set_option maxRecDepth 20000 in
theorem ggX0_countWithRole_X0_agrees : GoodIn wsX0_countWithRole wsX0_agrees := goodIn_r _ [14, 15, 16, 17] (by decide +kernel) (by decide +kernel)
set_option maxRecDepth 20000 in
theorem gX0_countWithRole_X0_agrees : GoodIn wsX0_countWithRole (wsV RX0 55 RX0 yX0_agrees wsX0_agrees) := goodIn_app (goodIn_of _ (by decide +kernel)) ggX0_countWithRole_X0_agrees
theorem dX0_countWithRole_0 : decode cX0_countWithRole 0 = .ok (.iload_n 2, 1) := by decide +kernel
theorem dX0_countWithRole_1 : decode cX0_countWithRole 1 = .ok (.invokestatic 48, 3) := by decide +kernel
theorem dX0_countWithRole_4 : decode cX0_countWithRole 4 = .ok (.invokestatic 59, 3) := by decide +kernel
theorem dX0_countWithRole_7 : decode cX0_countWithRole 7 = .ok (.istore 4, 2) := by decide +kernel
theorem dX0_countWithRole_9 : decode cX0_countWithRole 9 = .ok (.iload_n 2, 1) := by decide +kernel
theorem dX0_countWithRole_10 : decode cX0_countWithRole 10 = .ok (.iload_n 3, 1) := by decide +kernel
theorem dX0_countWithRole_11 : decode cX0_countWithRole 11 = .ok (.invokestatic 62, 3) := by decide +kernel
theorem dX0_countWithRole_14 : decode cX0_countWithRole 14 = .ok (.istore 5, 2) := by decide +kernel
theorem dX0_countWithRole_16 : decode cX0_countWithRole 16 = .ok (.iconst 0, 1) := by decide +kernel
theorem dX0_countWithRole_17 : decode cX0_countWithRole 17 = .ok (.istore 6, 2) := by decide +kernel
theorem dX0_countWithRole_19 : decode cX0_countWithRole 19 = .ok (.iconst 0, 1) := by decide +kernel
theorem dX0_countWithRole_20 : decode cX0_countWithRole 20 = .ok (.istore 7, 2) := by decide +kernel
theorem dX0_countWithRole_22 : decode cX0_countWithRole 22 = .ok (.iload 7, 2) := by decide +kernel
theorem dX0_countWithRole_24 : decode cX0_countWithRole 24 = .ok (.aload_n 0, 1) := by decide +kernel
theorem dX0_countWithRole_25 : decode cX0_countWithRole 25 = .ok (.getfield 11, 3) := by decide +kernel
theorem dX0_countWithRole_28 : decode cX0_countWithRole 28 = .ok (.arraylength, 1) := by decide +kernel
theorem dX0_countWithRole_29 : decode cX0_countWithRole 29 = .ok (.if_icmp .ge 52, 3) := by decide +kernel
theorem dX0_countWithRole_32 : decode cX0_countWithRole 32 = .ok (.aload_n 0, 1) := by decide +kernel
theorem dX0_countWithRole_33 : decode cX0_countWithRole 33 = .ok (.getfield 11, 3) := by decide +kernel
theorem dX0_countWithRole_36 : decode cX0_countWithRole 36 = .ok (.iload 7, 2) := by decide +kernel
theorem dX0_countWithRole_38 : decode cX0_countWithRole 38 = .ok (.iaload, 1) := by decide +kernel
theorem dX0_countWithRole_39 : decode cX0_countWithRole 39 = .ok (.ifCond .eq 42, 3) := by decide +kernel
theorem dX0_countWithRole_42 : decode cX0_countWithRole 42 = .ok (.aload_n 0, 1) := by decide +kernel
theorem dX0_countWithRole_43 : decode cX0_countWithRole 43 = .ok (.getfield 11, 3) := by decide +kernel
theorem dX0_countWithRole_46 : decode cX0_countWithRole 46 = .ok (.iload 7, 2) := by decide +kernel
theorem dX0_countWithRole_48 : decode cX0_countWithRole 48 = .ok (.iaload, 1) := by decide +kernel
theorem dX0_countWithRole_49 : decode cX0_countWithRole 49 = .ok (.iload 4, 2) := by decide +kernel
theorem dX0_countWithRole_51 : decode cX0_countWithRole 51 = .ok (.iand, 1) := by decide +kernel
theorem dX0_countWithRole_52 : decode cX0_countWithRole 52 = .ok (.iload 5, 2) := by decide +kernel
theorem dX0_countWithRole_54 : decode cX0_countWithRole 54 = .ok (.if_icmp .ne 21, 3) := by decide +kernel
theorem dX0_countWithRole_57 : decode cX0_countWithRole 57 = .ok (.aload_n 0, 1) := by decide +kernel
theorem dX0_countWithRole_58 : decode cX0_countWithRole 58 = .ok (.aload_n 0, 1) := by decide +kernel
theorem dX0_countWithRole_59 : decode cX0_countWithRole 59 = .ok (.getfield 11, 3) := by decide +kernel
theorem dX0_countWithRole_62 : decode cX0_countWithRole 62 = .ok (.iload 7, 2) := by decide +kernel
theorem dX0_countWithRole_64 : decode cX0_countWithRole 64 = .ok (.iaload, 1) := by decide +kernel
theorem dX0_countWithRole_65 : decode cX0_countWithRole 65 = .ok (.iload_n 1, 1) := by decide +kernel
theorem dX0_countWithRole_66 : decode cX0_countWithRole 66 = .ok (.invokevirtual 55, 3) := by decide +kernel
theorem dX0_countWithRole_69 : decode cX0_countWithRole 69 = .ok (.ifCond .eq 6, 3) := by decide +kernel
theorem dX0_countWithRole_72 : decode cX0_countWithRole 72 = .ok (.iinc 6 1, 3) := by decide +kernel
theorem dX0_countWithRole_75 : decode cX0_countWithRole 75 = .ok (.iinc 7 1, 3) := by decide +kernel
theorem dX0_countWithRole_78 : decode cX0_countWithRole 78 = .ok (.goto (-56), 3) := by decide +kernel
theorem dX0_countWithRole_81 : decode cX0_countWithRole 81 = .ok (.iload 6, 2) := by decide +kernel
theorem dX0_countWithRole_83 : decode cX0_countWithRole 83 = .ok (.ireturn, 1) := by decide +kernel
set_option maxRecDepth 20000 in
theorem ggX0_witchesInAll_X0_agrees : GoodIn wsX0_witchesInAll wsX0_agrees := goodIn_r _ [6, 7, 11, 12] (by decide +kernel) (by decide +kernel)
set_option maxRecDepth 20000 in
theorem gX0_witchesInAll_X0_agrees : GoodIn wsX0_witchesInAll (wsV RX0 55 RX0 yX0_agrees wsX0_agrees) := goodIn_app (goodIn_of _ (by decide +kernel)) ggX0_witchesInAll_X0_agrees
set_option maxRecDepth 20000 in
theorem ggX0_witchesInAll_X1_witchesOf : GoodIn wsX0_witchesInAll wsX1_witchesOf := goodIn_r _ [10] (by decide +kernel) (by decide +kernel)
set_option maxRecDepth 20000 in
theorem gX0_witchesInAll_X1_witchesOf_n25 : GoodIn wsX0_witchesInAll (wsX1_witchesOf) := ggX0_witchesInAll_X1_witchesOf
theorem dX0_witchesInAll_0 : decode cX0_witchesInAll 0 = .ok (.sipush 255, 3) := by decide +kernel
theorem dX0_witchesInAll_3 : decode cX0_witchesInAll 3 = .ok (.istore_n 2, 1) := by decide +kernel
theorem dX0_witchesInAll_4 : decode cX0_witchesInAll 4 = .ok (.iconst 0, 1) := by decide +kernel
theorem dX0_witchesInAll_5 : decode cX0_witchesInAll 5 = .ok (.istore_n 3, 1) := by decide +kernel
theorem dX0_witchesInAll_6 : decode cX0_witchesInAll 6 = .ok (.iload_n 3, 1) := by decide +kernel
theorem dX0_witchesInAll_7 : decode cX0_witchesInAll 7 = .ok (.aload_n 0, 1) := by decide +kernel
theorem dX0_witchesInAll_8 : decode cX0_witchesInAll 8 = .ok (.getfield 11, 3) := by decide +kernel
theorem dX0_witchesInAll_11 : decode cX0_witchesInAll 11 = .ok (.arraylength, 1) := by decide +kernel
theorem dX0_witchesInAll_12 : decode cX0_witchesInAll 12 = .ok (.if_icmp .ge 44, 3) := by decide +kernel
theorem dX0_witchesInAll_15 : decode cX0_witchesInAll 15 = .ok (.aload_n 0, 1) := by decide +kernel
theorem dX0_witchesInAll_16 : decode cX0_witchesInAll 16 = .ok (.getfield 11, 3) := by decide +kernel
theorem dX0_witchesInAll_19 : decode cX0_witchesInAll 19 = .ok (.iload_n 3, 1) := by decide +kernel
theorem dX0_witchesInAll_20 : decode cX0_witchesInAll 20 = .ok (.iaload, 1) := by decide +kernel
theorem dX0_witchesInAll_21 : decode cX0_witchesInAll 21 = .ok (.ifCond .eq 35, 3) := by decide +kernel
theorem dX0_witchesInAll_24 : decode cX0_witchesInAll 24 = .ok (.aload_n 0, 1) := by decide +kernel
theorem dX0_witchesInAll_25 : decode cX0_witchesInAll 25 = .ok (.aload_n 0, 1) := by decide +kernel
theorem dX0_witchesInAll_26 : decode cX0_witchesInAll 26 = .ok (.getfield 11, 3) := by decide +kernel
theorem dX0_witchesInAll_29 : decode cX0_witchesInAll 29 = .ok (.iload_n 3, 1) := by decide +kernel
theorem dX0_witchesInAll_30 : decode cX0_witchesInAll 30 = .ok (.iaload, 1) := by decide +kernel
theorem dX0_witchesInAll_31 : decode cX0_witchesInAll 31 = .ok (.iload_n 1, 1) := by decide +kernel
theorem dX0_witchesInAll_32 : decode cX0_witchesInAll 32 = .ok (.invokevirtual 55, 3) := by decide +kernel
theorem dX0_witchesInAll_35 : decode cX0_witchesInAll 35 = .ok (.ifCond .eq 15, 3) := by decide +kernel
theorem dX0_witchesInAll_38 : decode cX0_witchesInAll 38 = .ok (.iload_n 2, 1) := by decide +kernel
theorem dX0_witchesInAll_39 : decode cX0_witchesInAll 39 = .ok (.aload_n 0, 1) := by decide +kernel
theorem dX0_witchesInAll_40 : decode cX0_witchesInAll 40 = .ok (.getfield 11, 3) := by decide +kernel
theorem dX0_witchesInAll_43 : decode cX0_witchesInAll 43 = .ok (.iload_n 3, 1) := by decide +kernel
theorem dX0_witchesInAll_44 : decode cX0_witchesInAll 44 = .ok (.iaload, 1) := by decide +kernel
theorem dX0_witchesInAll_45 : decode cX0_witchesInAll 45 = .ok (.invokestatic 25, 3) := by decide +kernel
theorem dX0_witchesInAll_48 : decode cX0_witchesInAll 48 = .ok (.iand, 1) := by decide +kernel
theorem dX0_witchesInAll_49 : decode cX0_witchesInAll 49 = .ok (.istore_n 2, 1) := by decide +kernel
theorem dX0_witchesInAll_50 : decode cX0_witchesInAll 50 = .ok (.iinc 3 1, 3) := by decide +kernel
theorem dX0_witchesInAll_53 : decode cX0_witchesInAll 53 = .ok (.goto (-47), 3) := by decide +kernel
theorem dX0_witchesInAll_56 : decode cX0_witchesInAll 56 = .ok (.iload_n 2, 1) := by decide +kernel
theorem dX0_witchesInAll_57 : decode cX0_witchesInAll 57 = .ok (.ireturn, 1) := by decide +kernel
set_option maxRecDepth 20000 in
theorem ggX0_witchesInAny_X0_agrees : GoodIn wsX0_witchesInAny wsX0_agrees := goodIn_r _ [6, 7, 11, 12] (by decide +kernel) (by decide +kernel)
set_option maxRecDepth 20000 in
theorem gX0_witchesInAny_X0_agrees : GoodIn wsX0_witchesInAny (wsV RX0 55 RX0 yX0_agrees wsX0_agrees) := goodIn_app (goodIn_of _ (by decide +kernel)) ggX0_witchesInAny_X0_agrees
set_option maxRecDepth 20000 in
theorem ggX0_witchesInAny_X1_witchesOf : GoodIn wsX0_witchesInAny wsX1_witchesOf := goodIn_r _ [10] (by decide +kernel) (by decide +kernel)
set_option maxRecDepth 20000 in
theorem gX0_witchesInAny_X1_witchesOf_n25 : GoodIn wsX0_witchesInAny (wsX1_witchesOf) := ggX0_witchesInAny_X1_witchesOf
theorem dX0_witchesInAny_0 : decode cX0_witchesInAny 0 = .ok (.iconst 0, 1) := by decide +kernel
theorem dX0_witchesInAny_1 : decode cX0_witchesInAny 1 = .ok (.istore_n 2, 1) := by decide +kernel
theorem dX0_witchesInAny_2 : decode cX0_witchesInAny 2 = .ok (.iconst 0, 1) := by decide +kernel
theorem dX0_witchesInAny_3 : decode cX0_witchesInAny 3 = .ok (.istore_n 3, 1) := by decide +kernel
theorem dX0_witchesInAny_4 : decode cX0_witchesInAny 4 = .ok (.iload_n 3, 1) := by decide +kernel
theorem dX0_witchesInAny_5 : decode cX0_witchesInAny 5 = .ok (.aload_n 0, 1) := by decide +kernel
theorem dX0_witchesInAny_6 : decode cX0_witchesInAny 6 = .ok (.getfield 11, 3) := by decide +kernel
theorem dX0_witchesInAny_9 : decode cX0_witchesInAny 9 = .ok (.arraylength, 1) := by decide +kernel
theorem dX0_witchesInAny_10 : decode cX0_witchesInAny 10 = .ok (.if_icmp .ge 44, 3) := by decide +kernel
theorem dX0_witchesInAny_13 : decode cX0_witchesInAny 13 = .ok (.aload_n 0, 1) := by decide +kernel
theorem dX0_witchesInAny_14 : decode cX0_witchesInAny 14 = .ok (.getfield 11, 3) := by decide +kernel
theorem dX0_witchesInAny_17 : decode cX0_witchesInAny 17 = .ok (.iload_n 3, 1) := by decide +kernel
theorem dX0_witchesInAny_18 : decode cX0_witchesInAny 18 = .ok (.iaload, 1) := by decide +kernel
theorem dX0_witchesInAny_19 : decode cX0_witchesInAny 19 = .ok (.ifCond .eq 35, 3) := by decide +kernel
theorem dX0_witchesInAny_22 : decode cX0_witchesInAny 22 = .ok (.aload_n 0, 1) := by decide +kernel
theorem dX0_witchesInAny_23 : decode cX0_witchesInAny 23 = .ok (.aload_n 0, 1) := by decide +kernel
theorem dX0_witchesInAny_24 : decode cX0_witchesInAny 24 = .ok (.getfield 11, 3) := by decide +kernel
theorem dX0_witchesInAny_27 : decode cX0_witchesInAny 27 = .ok (.iload_n 3, 1) := by decide +kernel
theorem dX0_witchesInAny_28 : decode cX0_witchesInAny 28 = .ok (.iaload, 1) := by decide +kernel
theorem dX0_witchesInAny_29 : decode cX0_witchesInAny 29 = .ok (.iload_n 1, 1) := by decide +kernel
theorem dX0_witchesInAny_30 : decode cX0_witchesInAny 30 = .ok (.invokevirtual 55, 3) := by decide +kernel
theorem dX0_witchesInAny_33 : decode cX0_witchesInAny 33 = .ok (.ifCond .eq 15, 3) := by decide +kernel
theorem dX0_witchesInAny_36 : decode cX0_witchesInAny 36 = .ok (.iload_n 2, 1) := by decide +kernel
theorem dX0_witchesInAny_37 : decode cX0_witchesInAny 37 = .ok (.aload_n 0, 1) := by decide +kernel
theorem dX0_witchesInAny_38 : decode cX0_witchesInAny 38 = .ok (.getfield 11, 3) := by decide +kernel
theorem dX0_witchesInAny_41 : decode cX0_witchesInAny 41 = .ok (.iload_n 3, 1) := by decide +kernel
theorem dX0_witchesInAny_42 : decode cX0_witchesInAny 42 = .ok (.iaload, 1) := by decide +kernel
theorem dX0_witchesInAny_43 : decode cX0_witchesInAny 43 = .ok (.invokestatic 25, 3) := by decide +kernel
theorem dX0_witchesInAny_46 : decode cX0_witchesInAny 46 = .ok (.ior, 1) := by decide +kernel
theorem dX0_witchesInAny_47 : decode cX0_witchesInAny 47 = .ok (.istore_n 2, 1) := by decide +kernel
theorem dX0_witchesInAny_48 : decode cX0_witchesInAny 48 = .ok (.iinc 3 1, 3) := by decide +kernel
theorem dX0_witchesInAny_51 : decode cX0_witchesInAny 51 = .ok (.goto (-47), 3) := by decide +kernel
theorem dX0_witchesInAny_54 : decode cX0_witchesInAny 54 = .ok (.iload_n 2, 1) := by decide +kernel
theorem dX0_witchesInAny_55 : decode cX0_witchesInAny 55 = .ok (.ireturn, 1) := by decide +kernel
set_option maxRecDepth 20000 in
theorem ggX0_countWitchSets_X0_agrees : GoodIn wsX0_countWitchSets wsX0_agrees := goodIn_r _ [6, 7, 11, 12] (by decide +kernel) (by decide +kernel)
set_option maxRecDepth 20000 in
theorem gX0_countWitchSets_X0_agrees : GoodIn wsX0_countWitchSets (wsV RX0 55 RX0 yX0_agrees wsX0_agrees) := goodIn_app (goodIn_of _ (by decide +kernel)) ggX0_countWitchSets_X0_agrees
set_option maxRecDepth 20000 in
theorem ggX0_countWitchSets_X1_witchesOf : GoodIn wsX0_countWitchSets wsX1_witchesOf := goodIn_r _ [10] (by decide +kernel) (by decide +kernel)
set_option maxRecDepth 20000 in
theorem gX0_countWitchSets_X1_witchesOf_n25 : GoodIn wsX0_countWitchSets (wsX1_witchesOf) := ggX0_countWitchSets_X1_witchesOf
theorem dX0_countWitchSets_0 : decode cX0_countWitchSets 0 = .ok (.iconst 0, 1) := by decide +kernel
theorem dX0_countWitchSets_1 : decode cX0_countWitchSets 1 = .ok (.istore_n 2, 1) := by decide +kernel
theorem dX0_countWitchSets_2 : decode cX0_countWitchSets 2 = .ok (.iconst 0, 1) := by decide +kernel
theorem dX0_countWitchSets_3 : decode cX0_countWitchSets 3 = .ok (.istore_n 3, 1) := by decide +kernel
theorem dX0_countWitchSets_4 : decode cX0_countWitchSets 4 = .ok (.iconst 0, 1) := by decide +kernel
theorem dX0_countWitchSets_5 : decode cX0_countWitchSets 5 = .ok (.istore 4, 2) := by decide +kernel
theorem dX0_countWitchSets_7 : decode cX0_countWitchSets 7 = .ok (.iload 4, 2) := by decide +kernel
theorem dX0_countWitchSets_9 : decode cX0_countWitchSets 9 = .ok (.aload_n 0, 1) := by decide +kernel
theorem dX0_countWitchSets_10 : decode cX0_countWitchSets 10 = .ok (.getfield 11, 3) := by decide +kernel
theorem dX0_countWitchSets_13 : decode cX0_countWitchSets 13 = .ok (.arraylength, 1) := by decide +kernel
theorem dX0_countWitchSets_14 : decode cX0_countWitchSets 14 = .ok (.if_icmp .ge 62, 3) := by decide +kernel
theorem dX0_countWitchSets_17 : decode cX0_countWitchSets 17 = .ok (.aload_n 0, 1) := by decide +kernel
theorem dX0_countWitchSets_18 : decode cX0_countWitchSets 18 = .ok (.getfield 11, 3) := by decide +kernel
theorem dX0_countWitchSets_21 : decode cX0_countWitchSets 21 = .ok (.iload 4, 2) := by decide +kernel
theorem dX0_countWitchSets_23 : decode cX0_countWitchSets 23 = .ok (.iaload, 1) := by decide +kernel
theorem dX0_countWitchSets_24 : decode cX0_countWitchSets 24 = .ok (.ifCond .eq 52, 3) := by decide +kernel
theorem dX0_countWitchSets_27 : decode cX0_countWitchSets 27 = .ok (.aload_n 0, 1) := by decide +kernel
theorem dX0_countWitchSets_28 : decode cX0_countWitchSets 28 = .ok (.aload_n 0, 1) := by decide +kernel
theorem dX0_countWitchSets_29 : decode cX0_countWitchSets 29 = .ok (.getfield 11, 3) := by decide +kernel
theorem dX0_countWitchSets_32 : decode cX0_countWitchSets 32 = .ok (.iload 4, 2) := by decide +kernel
theorem dX0_countWitchSets_34 : decode cX0_countWitchSets 34 = .ok (.iaload, 1) := by decide +kernel
theorem dX0_countWitchSets_35 : decode cX0_countWitchSets 35 = .ok (.iload_n 1, 1) := by decide +kernel
theorem dX0_countWitchSets_36 : decode cX0_countWitchSets 36 = .ok (.invokevirtual 55, 3) := by decide +kernel
theorem dX0_countWitchSets_39 : decode cX0_countWitchSets 39 = .ok (.ifCond .eq 31, 3) := by decide +kernel
theorem dX0_countWitchSets_42 : decode cX0_countWitchSets 42 = .ok (.aload_n 0, 1) := by decide +kernel
theorem dX0_countWitchSets_43 : decode cX0_countWitchSets 43 = .ok (.getfield 11, 3) := by decide +kernel
theorem dX0_countWitchSets_46 : decode cX0_countWitchSets 46 = .ok (.iload 4, 2) := by decide +kernel
theorem dX0_countWitchSets_48 : decode cX0_countWitchSets 48 = .ok (.iaload, 1) := by decide +kernel
theorem dX0_countWitchSets_49 : decode cX0_countWitchSets 49 = .ok (.invokestatic 25, 3) := by decide +kernel
theorem dX0_countWitchSets_52 : decode cX0_countWitchSets 52 = .ok (.iload_n 3, 1) := by decide +kernel
theorem dX0_countWitchSets_53 : decode cX0_countWitchSets 53 = .ok (.if_icmp .eq 17, 3) := by decide +kernel
theorem dX0_countWitchSets_56 : decode cX0_countWitchSets 56 = .ok (.aload_n 0, 1) := by decide +kernel
theorem dX0_countWitchSets_57 : decode cX0_countWitchSets 57 = .ok (.getfield 11, 3) := by decide +kernel
theorem dX0_countWitchSets_60 : decode cX0_countWitchSets 60 = .ok (.iload 4, 2) := by decide +kernel
theorem dX0_countWitchSets_62 : decode cX0_countWitchSets 62 = .ok (.iaload, 1) := by decide +kernel
theorem dX0_countWitchSets_63 : decode cX0_countWitchSets 63 = .ok (.invokestatic 25, 3) := by decide +kernel
theorem dX0_countWitchSets_66 : decode cX0_countWitchSets 66 = .ok (.istore_n 3, 1) := by decide +kernel
theorem dX0_countWitchSets_67 : decode cX0_countWitchSets 67 = .ok (.iinc 2 1, 3) := by decide +kernel
theorem dX0_countWitchSets_70 : decode cX0_countWitchSets 70 = .ok (.iinc 4 1, 3) := by decide +kernel
theorem dX0_countWitchSets_73 : decode cX0_countWitchSets 73 = .ok (.goto (-66), 3) := by decide +kernel
theorem dX0_countWitchSets_76 : decode cX0_countWitchSets 76 = .ok (.iload_n 2, 1) := by decide +kernel
theorem dX0_countWitchSets_77 : decode cX0_countWitchSets 77 = .ok (.ireturn, 1) := by decide +kernel
set_option maxRecDepth 20000 in
theorem ggX0_contains_X0_agrees : GoodIn wsX0_contains wsX0_agrees := goodIn_r _ [6, 7, 8, 9] (by decide +kernel) (by decide +kernel)
set_option maxRecDepth 20000 in
theorem gX0_contains_X0_agrees : GoodIn wsX0_contains (wsV RX0 55 RX0 yX0_agrees wsX0_agrees) := goodIn_app (goodIn_of _ (by decide +kernel)) ggX0_contains_X0_agrees
theorem dX0_contains_0 : decode cX0_contains 0 = .ok (.iconst 0, 1) := by decide +kernel
theorem dX0_contains_1 : decode cX0_contains 1 = .ok (.istore_n 3, 1) := by decide +kernel
theorem dX0_contains_2 : decode cX0_contains 2 = .ok (.iload_n 3, 1) := by decide +kernel
theorem dX0_contains_3 : decode cX0_contains 3 = .ok (.aload_n 0, 1) := by decide +kernel
theorem dX0_contains_4 : decode cX0_contains 4 = .ok (.getfield 11, 3) := by decide +kernel
theorem dX0_contains_7 : decode cX0_contains 7 = .ok (.arraylength, 1) := by decide +kernel
theorem dX0_contains_8 : decode cX0_contains 8 = .ok (.if_icmp .ge 35, 3) := by decide +kernel
theorem dX0_contains_11 : decode cX0_contains 11 = .ok (.aload_n 0, 1) := by decide +kernel
theorem dX0_contains_12 : decode cX0_contains 12 = .ok (.getfield 11, 3) := by decide +kernel
theorem dX0_contains_15 : decode cX0_contains 15 = .ok (.iload_n 3, 1) := by decide +kernel
theorem dX0_contains_16 : decode cX0_contains 16 = .ok (.iaload, 1) := by decide +kernel
theorem dX0_contains_17 : decode cX0_contains 17 = .ok (.ifCond .eq 26, 3) := by decide +kernel
theorem dX0_contains_20 : decode cX0_contains 20 = .ok (.aload_n 0, 1) := by decide +kernel
theorem dX0_contains_21 : decode cX0_contains 21 = .ok (.getfield 11, 3) := by decide +kernel
theorem dX0_contains_24 : decode cX0_contains 24 = .ok (.iload_n 3, 1) := by decide +kernel
theorem dX0_contains_25 : decode cX0_contains 25 = .ok (.iaload, 1) := by decide +kernel
theorem dX0_contains_26 : decode cX0_contains 26 = .ok (.iload_n 1, 1) := by decide +kernel
theorem dX0_contains_27 : decode cX0_contains 27 = .ok (.if_icmp .ne 10, 3) := by decide +kernel
theorem dX0_contains_30 : decode cX0_contains 30 = .ok (.aload_n 0, 1) := by decide +kernel
theorem dX0_contains_31 : decode cX0_contains 31 = .ok (.iload_n 1, 1) := by decide +kernel
theorem dX0_contains_32 : decode cX0_contains 32 = .ok (.iload_n 2, 1) := by decide +kernel
theorem dX0_contains_33 : decode cX0_contains 33 = .ok (.invokevirtual 55, 3) := by decide +kernel
theorem dX0_contains_36 : decode cX0_contains 36 = .ok (.ireturn, 1) := by decide +kernel
theorem dX0_contains_37 : decode cX0_contains 37 = .ok (.iinc 3 1, 3) := by decide +kernel
theorem dX0_contains_40 : decode cX0_contains 40 = .ok (.goto (-38), 3) := by decide +kernel
theorem dX0_contains_43 : decode cX0_contains 43 = .ok (.iconst 0, 1) := by decide +kernel
theorem dX0_contains_44 : decode cX0_contains 44 = .ok (.ireturn, 1) := by decide +kernel
set_option maxRecDepth 20000 in
theorem ggX1_init_X0_init : GoodIn wsX1_init wsX0_init := goodIn_r _ [16, 17, 2, 3, 8, 18, 19, 20] (by decide +kernel) (by decide +kernel)
set_option maxRecDepth 20000 in
theorem gX1_init_X0_init_n11 : GoodIn wsX1_init (wsX0_init) := ggX1_init_X0_init
end
section
theorem dX1_init_0 : decode cX1_init 0 = .ok (.aload_n 0, 1) := by decide +kernel
theorem dX1_init_1 : decode cX1_init 1 = .ok (.invokespecial 3, 3) := by decide +kernel
theorem dX1_init_4 : decode cX1_init 4 = .ok (.aload_n 0, 1) := by decide +kernel
theorem dX1_init_5 : decode cX1_init 5 = .ok (.new 9, 3) := by decide +kernel
theorem dX1_init_8 : decode cX1_init 8 = .ok (.dup, 1) := by decide +kernel
theorem dX1_init_9 : decode cX1_init 9 = .ok (.invokespecial 11, 3) := by decide +kernel
theorem dX1_init_12 : decode cX1_init 12 = .ok (.putfield 12, 3) := by decide +kernel
theorem dX1_init_15 : decode cX1_init 15 = .ok (.aload_n 0, 1) := by decide +kernel
theorem dX1_init_16 : decode cX1_init 16 = .ok (.bipush 8, 2) := by decide +kernel
theorem dX1_init_18 : decode cX1_init 18 = .ok (.newarray .int, 2) := by decide +kernel
theorem dX1_init_20 : decode cX1_init 20 = .ok (.putfield 16, 3) := by decide +kernel
theorem dX1_init_23 : decode cX1_init 23 = .ok (.aload_n 0, 1) := by decide +kernel
theorem dX1_init_24 : decode cX1_init 24 = .ok (.iconst 0, 1) := by decide +kernel
theorem dX1_init_25 : decode cX1_init 25 = .ok (.putfield 20, 3) := by decide +kernel
theorem dX1_init_28 : decode cX1_init 28 = .ok (.aload_n 0, 1) := by decide +kernel
theorem dX1_init_29 : decode cX1_init 29 = .ok (.iconst (-1), 1) := by decide +kernel
theorem dX1_init_30 : decode cX1_init 30 = .ok (.putfield 24, 3) := by decide +kernel
theorem dX1_init_33 : decode cX1_init 33 = .ok (.aload_n 0, 1) := by decide +kernel
theorem dX1_init_34 : decode cX1_init 34 = .ok (.iconst (-1), 1) := by decide +kernel
theorem dX1_init_35 : decode cX1_init 35 = .ok (.putfield 27, 3) := by decide +kernel
theorem dX1_init_38 : decode cX1_init 38 = .ok (.aload_n 0, 1) := by decide +kernel
theorem dX1_init_39 : decode cX1_init 39 = .ok (.iconst (-1), 1) := by decide +kernel
theorem dX1_init_40 : decode cX1_init 40 = .ok (.putfield 30, 3) := by decide +kernel
theorem dX1_init_43 : decode cX1_init 43 = .ok (.aload_n 0, 1) := by decide +kernel
theorem dX1_init_44 : decode cX1_init 44 = .ok (.iconst (-1), 1) := by decide +kernel
theorem dX1_init_45 : decode cX1_init 45 = .ok (.putfield 33, 3) := by decide +kernel
theorem dX1_init_48 : decode cX1_init 48 = .ok (.return_, 1) := by decide +kernel
set_option maxRecDepth 20000 in
theorem ggX1_start_X1_isDeal : GoodIn wsX1_start wsX1_isDeal := goodIn_r _ [16, 17, 18, 15, 19, 20, 21, 22, 23, 24, 25, 26, 27, 28, 29, 30, 31, 32] (by decide +kernel) (by decide +kernel)
set_option maxRecDepth 20000 in
theorem gX1_start_X1_isDeal : GoodIn wsX1_start (va_wsS RX1 36 yX1_isDeal wsX1_isDeal) := goodIn_app (goodIn_of _ (by decide +kernel)) ggX1_start_X1_isDeal
set_option maxRecDepth 20000 in
theorem ggX1_start_X1_everyone : GoodIn wsX1_start wsX1_everyone := goodIn_r _ [19] (by decide +kernel) (by decide +kernel)
set_option maxRecDepth 20000 in
theorem gX1_start_X1_everyone : GoodIn wsX1_start (va_wsS RX1 59 yX1_everyone wsX1_everyone) := goodIn_app (goodIn_of _ (by decide +kernel)) ggX1_start_X1_everyone
set_option maxRecDepth 20000 in
theorem ggX1_start_X1_forgetVotes : GoodIn wsX1_start wsX1_forgetVotes := goodIn_r _ [36, 37, 38, 39, 40, 41, 84, 85, 86, 87, 88, 89, 90, 91, 92, 93, 94, 95, 96, 97] (by decide +kernel) (by decide +kernel)
set_option maxRecDepth 20000 in
theorem gX1_start_X1_forgetVotes : GoodIn wsX1_start (wsV RX1 72 RX1 yX1_forgetVotes wsX1_forgetVotes) := goodIn_app (goodIn_of _ (by decide +kernel)) ggX1_start_X1_forgetVotes
set_option maxRecDepth 20000 in
theorem ggX1_start_X1_forgetChoices : GoodIn wsX1_start wsX1_forgetChoices := goodIn_r _ [45, 46, 47, 48, 84, 85, 86, 87, 88, 89, 90, 91, 92, 93, 94, 95, 96, 97] (by decide +kernel) (by decide +kernel)
set_option maxRecDepth 20000 in
theorem gX1_start_X1_forgetChoices : GoodIn wsX1_start (wsV RX1 75 RX1 yX1_forgetChoices wsX1_forgetChoices) := goodIn_app (goodIn_of _ (by decide +kernel)) ggX1_start_X1_forgetChoices
set_option maxRecDepth 20000 in
theorem ggX1_start_X1_worldOf : GoodIn wsX1_start wsX1_worldOf := goodIn_r _ [51, 30, 31, 15, 32] (by decide +kernel) (by decide +kernel)
set_option maxRecDepth 20000 in
theorem gX1_start_X1_worldOf : GoodIn wsX1_start (va_wsS RX1 78 yX1_worldOf wsX1_worldOf) := goodIn_app (goodIn_of _ (by decide +kernel)) ggX1_start_X1_worldOf
set_option maxRecDepth 20000 in
theorem ggX1_start_X0_open : GoodIn wsX1_start wsX0_open := goodIn_r _ [55, 56, 57, 58, 39, 40, 41, 59, 15, 60, 61, 21, 22, 23, 24, 25, 26, 18, 19, 62, 63, 64, 53, 65, 28, 29, 30, 31, 32, 50, 51, 98, 99] (by decide +kernel) (by decide +kernel)
set_option maxRecDepth 20000 in
theorem gX1_start_X0_open_n82 : GoodIn wsX1_start (wsX0_open) := ggX1_start_X0_open
set_option maxRecDepth 20000 in
theorem ggX1_start_X1_knownBits : GoodIn wsX1_start wsX1_knownBits := goodIn_r _ [69, 3, 7, 5, 8, 17, 18, 15, 19, 70, 71, 72, 30, 31, 32, 73, 74, 75, 76, 4, 84, 85, 86, 87, 88, 89, 90, 91, 92, 93, 94, 95, 96, 97] (by decide +kernel) (by decide +kernel)
set_option maxRecDepth 20000 in
theorem gX1_start_X1_knownBits : GoodIn wsX1_start (wsV RX1 86 RX1 yX1_knownBits wsX1_knownBits) := goodIn_app (goodIn_of _ (by decide +kernel)) ggX1_start_X1_knownBits
set_option maxRecDepth 20000 in
theorem ggX1_start_X0_count : GoodIn wsX1_start wsX0_count := goodIn_r _ [79, 57, 80, 81, 82, 53, 83, 56, 98, 99] (by decide +kernel) (by decide +kernel)
set_option maxRecDepth 20000 in
theorem gX1_start_X0_count_n89 : GoodIn wsX1_start (wsX0_count) := ggX1_start_X0_count
theorem dX1_start_0 : decode cX1_start 0 = .ok (.iload_n 1, 1) := by decide +kernel
theorem dX1_start_1 : decode cX1_start 1 = .ok (.iload_n 2, 1) := by decide +kernel
theorem dX1_start_2 : decode cX1_start 2 = .ok (.iload_n 3, 1) := by decide +kernel
theorem dX1_start_3 : decode cX1_start 3 = .ok (.iload 4, 2) := by decide +kernel
theorem dX1_start_5 : decode cX1_start 5 = .ok (.invokestatic 36, 3) := by decide +kernel
theorem dX1_start_8 : decode cX1_start 8 = .ok (.ifCond .ne 13, 3) := by decide +kernel
theorem dX1_start_11 : decode cX1_start 11 = .ok (.new 40, 3) := by decide +kernel
theorem dX1_start_14 : decode cX1_start 14 = .ok (.dup, 1) := by decide +kernel
theorem dX1_start_15 : decode cX1_start 15 = .ok (.ldc 42, 2) := by decide +kernel
theorem dX1_start_17 : decode cX1_start 17 = .ok (.invokespecial 44, 3) := by decide +kernel
theorem dX1_start_20 : decode cX1_start 20 = .ok (.athrow, 1) := by decide +kernel
theorem dX1_start_21 : decode cX1_start 21 = .ok (.aload_n 0, 1) := by decide +kernel
theorem dX1_start_22 : decode cX1_start 22 = .ok (.iload_n 1, 1) := by decide +kernel
theorem dX1_start_23 : decode cX1_start 23 = .ok (.putfield 47, 3) := by decide +kernel
theorem dX1_start_26 : decode cX1_start 26 = .ok (.aload_n 0, 1) := by decide +kernel
theorem dX1_start_27 : decode cX1_start 27 = .ok (.iload_n 2, 1) := by decide +kernel
theorem dX1_start_28 : decode cX1_start 28 = .ok (.putfield 50, 3) := by decide +kernel
theorem dX1_start_31 : decode cX1_start 31 = .ok (.aload_n 0, 1) := by decide +kernel
theorem dX1_start_32 : decode cX1_start 32 = .ok (.iload_n 3, 1) := by decide +kernel
theorem dX1_start_33 : decode cX1_start 33 = .ok (.putfield 53, 3) := by decide +kernel
theorem dX1_start_36 : decode cX1_start 36 = .ok (.aload_n 0, 1) := by decide +kernel
theorem dX1_start_37 : decode cX1_start 37 = .ok (.iload 4, 2) := by decide +kernel
theorem dX1_start_39 : decode cX1_start 39 = .ok (.putfield 56, 3) := by decide +kernel
theorem dX1_start_42 : decode cX1_start 42 = .ok (.aload_n 0, 1) := by decide +kernel
theorem dX1_start_43 : decode cX1_start 43 = .ok (.iload_n 1, 1) := by decide +kernel
theorem dX1_start_44 : decode cX1_start 44 = .ok (.invokestatic 59, 3) := by decide +kernel
theorem dX1_start_47 : decode cX1_start 47 = .ok (.putfield 63, 3) := by decide +kernel
theorem dX1_start_50 : decode cX1_start 50 = .ok (.aload_n 0, 1) := by decide +kernel
theorem dX1_start_51 : decode cX1_start 51 = .ok (.iconst 0, 1) := by decide +kernel
theorem dX1_start_52 : decode cX1_start 52 = .ok (.putfield 66, 3) := by decide +kernel
theorem dX1_start_55 : decode cX1_start 55 = .ok (.aload_n 0, 1) := by decide +kernel
theorem dX1_start_56 : decode cX1_start 56 = .ok (.iconst 1, 1) := by decide +kernel
theorem dX1_start_57 : decode cX1_start 57 = .ok (.putfield 69, 3) := by decide +kernel
theorem dX1_start_60 : decode cX1_start 60 = .ok (.aload_n 0, 1) := by decide +kernel
theorem dX1_start_61 : decode cX1_start 61 = .ok (.iconst 1, 1) := by decide +kernel
theorem dX1_start_62 : decode cX1_start 62 = .ok (.putfield 20, 3) := by decide +kernel
theorem dX1_start_65 : decode cX1_start 65 = .ok (.aload_n 0, 1) := by decide +kernel
theorem dX1_start_66 : decode cX1_start 66 = .ok (.iconst (-1), 1) := by decide +kernel
theorem dX1_start_67 : decode cX1_start 67 = .ok (.putfield 33, 3) := by decide +kernel
theorem dX1_start_70 : decode cX1_start 70 = .ok (.aload_n 0, 1) := by decide +kernel
theorem dX1_start_71 : decode cX1_start 71 = .ok (.invokevirtual 72, 3) := by decide +kernel
theorem dX1_start_74 : decode cX1_start 74 = .ok (.aload_n 0, 1) := by decide +kernel
theorem dX1_start_75 : decode cX1_start 75 = .ok (.invokevirtual 75, 3) := by decide +kernel
theorem dX1_start_78 : decode cX1_start 78 = .ok (.aload_n 0, 1) := by decide +kernel
theorem dX1_start_79 : decode cX1_start 79 = .ok (.getfield 12, 3) := by decide +kernel
theorem dX1_start_82 : decode cX1_start 82 = .ok (.iload_n 1, 1) := by decide +kernel
theorem dX1_start_83 : decode cX1_start 83 = .ok (.iload_n 2, 1) := by decide +kernel
theorem dX1_start_84 : decode cX1_start 84 = .ok (.iload_n 3, 1) := by decide +kernel
theorem dX1_start_85 : decode cX1_start 85 = .ok (.iload 4, 2) := by decide +kernel
theorem dX1_start_87 : decode cX1_start 87 = .ok (.invokestatic 78, 3) := by decide +kernel
theorem dX1_start_90 : decode cX1_start 90 = .ok (.invokevirtual 82, 3) := by decide +kernel
theorem dX1_start_93 : decode cX1_start 93 = .ok (.aload_n 0, 1) := by decide +kernel
theorem dX1_start_94 : decode cX1_start 94 = .ok (.getfield 12, 3) := by decide +kernel
theorem dX1_start_97 : decode cX1_start 97 = .ok (.aload_n 0, 1) := by decide +kernel
theorem dX1_start_98 : decode cX1_start 98 = .ok (.iconst (-1), 1) := by decide +kernel
theorem dX1_start_99 : decode cX1_start 99 = .ok (.invokevirtual 86, 3) := by decide +kernel
theorem dX1_start_102 : decode cX1_start 102 = .ok (.invokevirtual 89, 3) := by decide +kernel
theorem dX1_start_105 : decode cX1_start 105 = .ok (.ireturn, 1) := by decide +kernel
theorem dX1_phase_0 : decode cX1_phase 0 = .ok (.aload_n 0, 1) := by decide +kernel
theorem dX1_phase_1 : decode cX1_phase 1 = .ok (.getfield 20, 3) := by decide +kernel
theorem dX1_phase_4 : decode cX1_phase 4 = .ok (.ireturn, 1) := by decide +kernel
set_option maxRecDepth 20000 in
theorem ggX1_claim_X1_requireGame : GoodIn wsX1_claim wsX1_requireGame := goodIn_ca (goodIn_r _ [7, 8, 9, 10, 75, 76, 77, 78, 79, 80, 81, 82, 83, 84, 85, 86, 87, 88] (by decide +kernel) (by decide +kernel)) (goodIn_sub (fun _ h => List.mem_cons_of_mem _ (List.mem_append_left _ (List.mem_append_left _ (List.mem_append_right _ h)))) (by decide +kernel))
set_option maxRecDepth 20000 in
theorem gX1_claim_X1_requireGame : GoodIn wsX1_claim (wsV RX1 92 RX1 yX1_requireGame wsX1_requireGame) := goodIn_app (goodIn_of _ (by decide +kernel)) ggX1_claim_X1_requireGame
set_option maxRecDepth 20000 in
theorem ggX1_claim_X1_requirePlayer : GoodIn wsX1_claim wsX1_requirePlayer := goodIn_ca (goodIn_r _ [14, 15, 16, 17, 75, 76, 77, 78, 79, 80, 81, 82, 83, 84, 85, 86, 87, 88] (by decide +kernel) (by decide +kernel)) (goodIn_sub (fun _ h => List.mem_cons_of_mem _ (List.mem_append_left _ (List.mem_append_right _ h))) (by decide +kernel))
set_option maxRecDepth 20000 in
theorem gX1_claim_X1_requirePlayer : GoodIn wsX1_claim (wsV RX1 95 RX1 yX1_requirePlayer wsX1_requirePlayer) := goodIn_app (goodIn_of _ (by decide +kernel)) ggX1_claim_X1_requirePlayer
set_option maxRecDepth 20000 in
theorem ggX1_claim_X1_claimedBits : GoodIn wsX1_claim wsX1_claimedBits := goodIn_r _ [20, 21, 22, 6, 23, 24, 25, 26] (by decide +kernel) (by decide +kernel)
set_option maxRecDepth 20000 in
theorem gX1_claim_X1_claimedBits : GoodIn wsX1_claim (va_wsS RX1 101 yX1_claimedBits wsX1_claimedBits) := goodIn_app (goodIn_of _ (by decide +kernel)) ggX1_claim_X1_claimedBits
set_option maxRecDepth 20000 in
theorem ggX1_claim_X1_makeClaim : GoodIn wsX1_claim wsX1_makeClaim := goodIn_ca (goodIn_r _ [30, 31, 32, 10, 33, 34, 35, 36, 6, 37, 38, 24, 25, 26, 39, 40, 41, 42, 43, 44, 45, 46, 47, 48, 49, 50, 51, 52, 53, 54, 17, 55, 56, 57, 58, 59, 60, 61, 62, 63, 64, 65, 66, 67, 68, 69, 70, 71, 72, 73, 74, 75, 76, 77, 78, 79, 80, 81, 82, 83, 84, 85, 86, 87, 88, 89, 90] (by decide +kernel) (by decide +kernel)) (goodIn_sub (fun _ h => List.mem_cons_of_mem _ (List.mem_append_right _ h)) (by decide +kernel))
set_option maxRecDepth 20000 in
theorem gX1_claim_X1_makeClaim : GoodIn wsX1_claim (wsV RX1 105 RX1 yX1_makeClaim wsX1_makeClaim) := goodIn_app (goodIn_of _ (by decide +kernel)) ggX1_claim_X1_makeClaim
theorem dX1_claim_0 : decode cX1_claim 0 = .ok (.aload_n 0, 1) := by decide +kernel
theorem dX1_claim_1 : decode cX1_claim 1 = .ok (.invokevirtual 92, 3) := by decide +kernel
theorem dX1_claim_4 : decode cX1_claim 4 = .ok (.aload_n 0, 1) := by decide +kernel
theorem dX1_claim_5 : decode cX1_claim 5 = .ok (.iload_n 1, 1) := by decide +kernel
theorem dX1_claim_6 : decode cX1_claim 6 = .ok (.invokevirtual 95, 3) := by decide +kernel
theorem dX1_claim_9 : decode cX1_claim 9 = .ok (.aload_n 0, 1) := by decide +kernel
theorem dX1_claim_10 : decode cX1_claim 10 = .ok (.iload_n 3, 1) := by decide +kernel
theorem dX1_claim_11 : decode cX1_claim 11 = .ok (.invokevirtual 95, 3) := by decide +kernel
theorem dX1_claim_14 : decode cX1_claim 14 = .ok (.iload_n 2, 1) := by decide +kernel
theorem dX1_claim_15 : decode cX1_claim 15 = .ok (.ifCond .lt 8, 3) := by decide +kernel
theorem dX1_claim_18 : decode cX1_claim 18 = .ok (.iload_n 2, 1) := by decide +kernel
theorem dX1_claim_19 : decode cX1_claim 19 = .ok (.iconst 3, 1) := by decide +kernel
theorem dX1_claim_20 : decode cX1_claim 20 = .ok (.if_icmp .le 13, 3) := by decide +kernel
theorem dX1_claim_23 : decode cX1_claim 23 = .ok (.new 40, 3) := by decide +kernel
theorem dX1_claim_26 : decode cX1_claim 26 = .ok (.dup, 1) := by decide +kernel
theorem dX1_claim_27 : decode cX1_claim 27 = .ok (.ldc 99, 2) := by decide +kernel
theorem dX1_claim_29 : decode cX1_claim 29 = .ok (.invokespecial 44, 3) := by decide +kernel
theorem dX1_claim_32 : decode cX1_claim 32 = .ok (.athrow, 1) := by decide +kernel
theorem dX1_claim_33 : decode cX1_claim 33 = .ok (.aload_n 0, 1) := by decide +kernel
theorem dX1_claim_34 : decode cX1_claim 34 = .ok (.iload_n 1, 1) := by decide +kernel
theorem dX1_claim_35 : decode cX1_claim 35 = .ok (.iload_n 2, 1) := by decide +kernel
theorem dX1_claim_36 : decode cX1_claim 36 = .ok (.iload_n 3, 1) := by decide +kernel
theorem dX1_claim_37 : decode cX1_claim 37 = .ok (.invokestatic 101, 3) := by decide +kernel
theorem dX1_claim_40 : decode cX1_claim 40 = .ok (.iload_n 2, 1) := by decide +kernel
theorem dX1_claim_41 : decode cX1_claim 41 = .ok (.iconst 1, 1) := by decide +kernel
theorem dX1_claim_42 : decode cX1_claim 42 = .ok (.if_icmp .eq 7, 3) := by decide +kernel
theorem dX1_claim_45 : decode cX1_claim 45 = .ok (.iconst 1, 1) := by decide +kernel
theorem dX1_claim_46 : decode cX1_claim 46 = .ok (.goto 4, 3) := by decide +kernel
theorem dX1_claim_49 : decode cX1_claim 49 = .ok (.iconst 0, 1) := by decide +kernel
theorem dX1_claim_50 : decode cX1_claim 50 = .ok (.invokevirtual 105, 3) := by decide +kernel
theorem dX1_claim_53 : decode cX1_claim 53 = .ok (.ireturn, 1) := by decide +kernel
set_option maxRecDepth 20000 in
theorem ggX1_claimAmong_X1_requireGame : GoodIn wsX1_claimAmong wsX1_requireGame := goodIn_ca (goodIn_r _ [8, 9, 10, 11, 69, 70, 71, 72, 73, 74, 75, 76, 77, 78, 79, 80, 81, 82] (by decide +kernel) (by decide +kernel)) (goodIn_sub (fun _ h => List.mem_cons_of_mem _ (List.mem_append_left _ (List.mem_append_left _ (List.mem_append_right _ h)))) (by decide +kernel))
set_option maxRecDepth 20000 in
theorem gX1_claimAmong_X1_requireGame : GoodIn wsX1_claimAmong (wsV RX1 92 RX1 yX1_requireGame wsX1_requireGame) := goodIn_app (goodIn_of _ (by decide +kernel)) ggX1_claimAmong_X1_requireGame
set_option maxRecDepth 20000 in
theorem ggX1_claimAmong_X1_requirePlayer : GoodIn wsX1_claimAmong wsX1_requirePlayer := goodIn_ca (goodIn_r _ [15, 16, 17, 3, 69, 70, 71, 72, 73, 74, 75, 76, 77, 78, 79, 80, 81, 82] (by decide +kernel) (by decide +kernel)) (goodIn_sub (fun _ h => List.mem_cons_of_mem _ (List.mem_append_left _ (List.mem_append_right _ h))) (by decide +kernel))
set_option maxRecDepth 20000 in
theorem gX1_claimAmong_X1_requirePlayer : GoodIn wsX1_claimAmong (wsV RX1 95 RX1 yX1_requirePlayer wsX1_requirePlayer) := goodIn_app (goodIn_of _ (by decide +kernel)) ggX1_claimAmong_X1_requirePlayer
set_option maxRecDepth 20000 in
theorem ggX1_claimAmong_X1_everyone : GoodIn wsX1_claimAmong wsX1_everyone := goodIn_r _ [20] (by decide +kernel) (by decide +kernel)
set_option maxRecDepth 20000 in
theorem gX1_claimAmong_X1_everyone : GoodIn wsX1_claimAmong (va_wsS RX1 59 yX1_everyone wsX1_everyone) := goodIn_app (goodIn_of _ (by decide +kernel)) ggX1_claimAmong_X1_everyone
set_option maxRecDepth 20000 in
theorem ggX1_claimAmong_X1_makeClaim : GoodIn wsX1_claimAmong wsX1_makeClaim := goodIn_ca (goodIn_r _ [24, 25, 26, 11, 27, 28, 29, 30, 7, 31, 32, 33, 34, 35, 36, 37, 38, 39, 40, 41, 42, 43, 44, 45, 46, 47, 48, 49, 50, 51, 3, 52, 53, 18, 19, 20, 54, 55, 56, 57, 58, 59, 60, 61, 62, 63, 64, 65, 66, 67, 68, 69, 70, 71, 72, 73, 74, 75, 76, 77, 78, 79, 80, 81, 82, 83, 84] (by decide +kernel) (by decide +kernel)) (goodIn_sub (fun _ h => List.mem_cons_of_mem _ (List.mem_append_right _ h)) (by decide +kernel))
set_option maxRecDepth 20000 in
theorem gX1_claimAmong_X1_makeClaim : GoodIn wsX1_claimAmong (wsV RX1 105 RX1 yX1_makeClaim wsX1_makeClaim) := goodIn_app (goodIn_of _ (by decide +kernel)) ggX1_claimAmong_X1_makeClaim
theorem dX1_claimAmong_0 : decode cX1_claimAmong 0 = .ok (.aload_n 0, 1) := by decide +kernel
theorem dX1_claimAmong_1 : decode cX1_claimAmong 1 = .ok (.invokevirtual 92, 3) := by decide +kernel
theorem dX1_claimAmong_4 : decode cX1_claimAmong 4 = .ok (.aload_n 0, 1) := by decide +kernel
theorem dX1_claimAmong_5 : decode cX1_claimAmong 5 = .ok (.iload_n 1, 1) := by decide +kernel
theorem dX1_claimAmong_6 : decode cX1_claimAmong 6 = .ok (.invokevirtual 95, 3) := by decide +kernel
theorem dX1_claimAmong_9 : decode cX1_claimAmong 9 = .ok (.iload_n 2, 1) := by decide +kernel
theorem dX1_claimAmong_10 : decode cX1_claimAmong 10 = .ok (.aload_n 0, 1) := by decide +kernel
theorem dX1_claimAmong_11 : decode cX1_claimAmong 11 = .ok (.getfield 47, 3) := by decide +kernel
theorem dX1_claimAmong_14 : decode cX1_claimAmong 14 = .ok (.invokestatic 59, 3) := by decide +kernel
theorem dX1_claimAmong_17 : decode cX1_claimAmong 17 = .ok (.iconst (-1), 1) := by decide +kernel
theorem dX1_claimAmong_18 : decode cX1_claimAmong 18 = .ok (.ixor, 1) := by decide +kernel
theorem dX1_claimAmong_19 : decode cX1_claimAmong 19 = .ok (.iand, 1) := by decide +kernel
theorem dX1_claimAmong_20 : decode cX1_claimAmong 20 = .ok (.ifCond .eq 13, 3) := by decide +kernel
theorem dX1_claimAmong_23 : decode cX1_claimAmong 23 = .ok (.new 40, 3) := by decide +kernel
theorem dX1_claimAmong_26 : decode cX1_claimAmong 26 = .ok (.dup, 1) := by decide +kernel
theorem dX1_claimAmong_27 : decode cX1_claimAmong 27 = .ok (.ldc 109, 2) := by decide +kernel
theorem dX1_claimAmong_29 : decode cX1_claimAmong 29 = .ok (.invokespecial 44, 3) := by decide +kernel
theorem dX1_claimAmong_32 : decode cX1_claimAmong 32 = .ok (.athrow, 1) := by decide +kernel
theorem dX1_claimAmong_33 : decode cX1_claimAmong 33 = .ok (.aload_n 0, 1) := by decide +kernel
theorem dX1_claimAmong_34 : decode cX1_claimAmong 34 = .ok (.iload_n 1, 1) := by decide +kernel
theorem dX1_claimAmong_35 : decode cX1_claimAmong 35 = .ok (.iload_n 2, 1) := by decide +kernel
theorem dX1_claimAmong_36 : decode cX1_claimAmong 36 = .ok (.iconst 1, 1) := by decide +kernel
theorem dX1_claimAmong_37 : decode cX1_claimAmong 37 = .ok (.invokevirtual 105, 3) := by decide +kernel
theorem dX1_claimAmong_40 : decode cX1_claimAmong 40 = .ok (.ireturn, 1) := by decide +kernel
set_option maxRecDepth 20000 in
theorem ggX1_vote_X1_requirePhase : GoodIn wsX1_vote wsX1_requirePhase := goodIn_ca (goodIn_r _ [8, 9, 10, 11, 31, 32, 33, 34, 35, 36, 37, 38, 39, 40, 41, 42, 43, 44] (by decide +kernel) (by decide +kernel)) (goodIn_sub (fun _ h => List.mem_cons_of_mem _ (List.mem_append_left _ (List.mem_append_right _ h))) (by decide +kernel))
set_option maxRecDepth 20000 in
theorem gX1_vote_X1_requirePhase : GoodIn wsX1_vote (wsV RX1 111 RX1 yX1_requirePhase wsX1_requirePhase) := goodIn_app (goodIn_of _ (by decide +kernel)) ggX1_vote_X1_requirePhase
set_option maxRecDepth 20000 in
theorem ggX1_vote_X1_requirePlayer : GoodIn wsX1_vote wsX1_requirePlayer := goodIn_ca (goodIn_r _ [15, 16, 17, 18, 31, 32, 33, 34, 35, 36, 37, 38, 39, 40, 41, 42, 43, 44] (by decide +kernel) (by decide +kernel)) (goodIn_sub (fun _ h => List.mem_cons_of_mem _ (List.mem_append_right _ h)) (by decide +kernel))
set_option maxRecDepth 20000 in
theorem gX1_vote_X1_requirePlayer : GoodIn wsX1_vote (wsV RX1 95 RX1 yX1_requirePlayer wsX1_requirePlayer) := goodIn_app (goodIn_of _ (by decide +kernel)) ggX1_vote_X1_requirePlayer
set_option maxRecDepth 20000 in
theorem ggX1_vote_X1_isAlive : GoodIn wsX1_vote wsX1_isAlive := goodIn_r _ [22, 23, 24, 25, 7, 26, 31, 32, 33, 34, 35, 36, 37, 38, 39, 40, 41, 42, 43, 44] (by decide +kernel) (by decide +kernel)
set_option maxRecDepth 20000 in
theorem gX1_vote_X1_isAlive : GoodIn wsX1_vote (wsV RX1 114 RX1 yX1_isAlive wsX1_isAlive) := goodIn_app (goodIn_of _ (by decide +kernel)) ggX1_vote_X1_isAlive
set_option maxRecDepth 20000 in
theorem ggX1_vote_X1_countVotes : GoodIn wsX1_vote wsX1_countVotes := goodIn_r _ [30, 3, 31, 32, 33, 34, 35, 36, 37, 38, 39, 40, 41, 42, 43, 44] (by decide +kernel) (by decide +kernel)
set_option maxRecDepth 20000 in
theorem gX1_vote_X1_countVotes : GoodIn wsX1_vote (wsV RX1 120 RX1 yX1_countVotes wsX1_countVotes) := goodIn_app (goodIn_of _ (by decide +kernel)) ggX1_vote_X1_countVotes
theorem dX1_vote_0 : decode cX1_vote 0 = .ok (.aload_n 0, 1) := by decide +kernel
theorem dX1_vote_1 : decode cX1_vote 1 = .ok (.iconst 1, 1) := by decide +kernel
theorem dX1_vote_2 : decode cX1_vote 2 = .ok (.invokevirtual 111, 3) := by decide +kernel
theorem dX1_vote_5 : decode cX1_vote 5 = .ok (.aload_n 0, 1) := by decide +kernel
theorem dX1_vote_6 : decode cX1_vote 6 = .ok (.iload_n 1, 1) := by decide +kernel
theorem dX1_vote_7 : decode cX1_vote 7 = .ok (.invokevirtual 95, 3) := by decide +kernel
theorem dX1_vote_10 : decode cX1_vote 10 = .ok (.aload_n 0, 1) := by decide +kernel
theorem dX1_vote_11 : decode cX1_vote 11 = .ok (.iload_n 2, 1) := by decide +kernel
theorem dX1_vote_12 : decode cX1_vote 12 = .ok (.invokevirtual 95, 3) := by decide +kernel
theorem dX1_vote_15 : decode cX1_vote 15 = .ok (.aload_n 0, 1) := by decide +kernel
theorem dX1_vote_16 : decode cX1_vote 16 = .ok (.iload_n 1, 1) := by decide +kernel
theorem dX1_vote_17 : decode cX1_vote 17 = .ok (.invokevirtual 114, 3) := by decide +kernel
theorem dX1_vote_20 : decode cX1_vote 20 = .ok (.ifCond .eq 11, 3) := by decide +kernel
theorem dX1_vote_23 : decode cX1_vote 23 = .ok (.aload_n 0, 1) := by decide +kernel
theorem dX1_vote_24 : decode cX1_vote 24 = .ok (.iload_n 2, 1) := by decide +kernel
theorem dX1_vote_25 : decode cX1_vote 25 = .ok (.invokevirtual 114, 3) := by decide +kernel
theorem dX1_vote_28 : decode cX1_vote 28 = .ok (.ifCond .ne 13, 3) := by decide +kernel
theorem dX1_vote_31 : decode cX1_vote 31 = .ok (.new 40, 3) := by decide +kernel
theorem dX1_vote_34 : decode cX1_vote 34 = .ok (.dup, 1) := by decide +kernel
theorem dX1_vote_35 : decode cX1_vote 35 = .ok (.ldc 118, 2) := by decide +kernel
theorem dX1_vote_37 : decode cX1_vote 37 = .ok (.invokespecial 44, 3) := by decide +kernel
theorem dX1_vote_40 : decode cX1_vote 40 = .ok (.athrow, 1) := by decide +kernel
theorem dX1_vote_41 : decode cX1_vote 41 = .ok (.aload_n 0, 1) := by decide +kernel
theorem dX1_vote_42 : decode cX1_vote 42 = .ok (.getfield 16, 3) := by decide +kernel
theorem dX1_vote_45 : decode cX1_vote 45 = .ok (.iload_n 1, 1) := by decide +kernel
theorem dX1_vote_46 : decode cX1_vote 46 = .ok (.iload_n 2, 1) := by decide +kernel
theorem dX1_vote_47 : decode cX1_vote 47 = .ok (.iastore, 1) := by decide +kernel
theorem dX1_vote_48 : decode cX1_vote 48 = .ok (.aload_n 0, 1) := by decide +kernel
theorem dX1_vote_49 : decode cX1_vote 49 = .ok (.iload_n 2, 1) := by decide +kernel
theorem dX1_vote_50 : decode cX1_vote 50 = .ok (.invokevirtual 120, 3) := by decide +kernel
theorem dX1_vote_53 : decode cX1_vote 53 = .ok (.ireturn, 1) := by decide +kernel
set_option maxRecDepth 20000 in
theorem ggX1_closeVote_X1_requirePhase : GoodIn wsX1_closeVote wsX1_requirePhase := goodIn_ca (goodIn_r _ [6, 7, 8, 1, 43, 44, 45, 46, 47, 48, 49, 50, 51, 52, 53, 54, 55, 56] (by decide +kernel) (by decide +kernel)) (goodIn_sub (fun _ h => List.mem_cons_of_mem _ (List.mem_append_right _ h)) (by decide +kernel))
set_option maxRecDepth 20000 in
theorem gX1_closeVote_X1_requirePhase : GoodIn wsX1_closeVote (wsV RX1 111 RX1 yX1_requirePhase wsX1_requirePhase) := goodIn_app (goodIn_of _ (by decide +kernel)) ggX1_closeVote_X1_requirePhase
set_option maxRecDepth 20000 in
theorem ggX1_closeVote_X1_playerWithMostVotes : GoodIn wsX1_closeVote wsX1_playerWithMostVotes := goodIn_r _ [12, 13, 14, 15, 16, 5, 17, 18, 43, 44, 45, 46, 47, 48, 49, 50, 51, 52, 53, 54, 55, 56] (by decide +kernel) (by decide +kernel)
set_option maxRecDepth 20000 in
theorem gX1_closeVote_X1_playerWithMostVotes : GoodIn wsX1_closeVote (wsV RX1 123 RX1 yX1_playerWithMostVotes wsX1_playerWithMostVotes) := goodIn_app (goodIn_of _ (by decide +kernel)) ggX1_closeVote_X1_playerWithMostVotes
set_option maxRecDepth 20000 in
theorem ggX1_closeVote_X1_forgetVotes : GoodIn wsX1_closeVote wsX1_forgetVotes := goodIn_r _ [22, 18, 23, 24, 25, 26, 43, 44, 45, 46, 47, 48, 49, 50, 51, 52, 53, 54, 55, 56] (by decide +kernel) (by decide +kernel)
set_option maxRecDepth 20000 in
theorem gX1_closeVote_X1_forgetVotes : GoodIn wsX1_closeVote (wsV RX1 72 RX1 yX1_forgetVotes wsX1_forgetVotes) := goodIn_app (goodIn_of _ (by decide +kernel)) ggX1_closeVote_X1_forgetVotes
set_option maxRecDepth 20000 in
theorem ggX1_closeVote_X1_die : GoodIn wsX1_closeVote wsX1_die := goodIn_r _ [30, 31, 32, 1, 33, 34, 5, 35, 36, 37, 38, 39, 40, 41, 42, 43, 44, 45, 46, 47, 48, 49, 50, 51, 52, 53, 54, 55, 56] (by decide +kernel) (by decide +kernel)
set_option maxRecDepth 20000 in
theorem gX1_closeVote_X1_die : GoodIn wsX1_closeVote (wsV RX1 127 RX1 yX1_die wsX1_die) := goodIn_app (goodIn_of _ (by decide +kernel)) ggX1_closeVote_X1_die
theorem dX1_closeVote_0 : decode cX1_closeVote 0 = .ok (.aload_n 0, 1) := by decide +kernel
theorem dX1_closeVote_1 : decode cX1_closeVote 1 = .ok (.iconst 1, 1) := by decide +kernel
theorem dX1_closeVote_2 : decode cX1_closeVote 2 = .ok (.invokevirtual 111, 3) := by decide +kernel
theorem dX1_closeVote_5 : decode cX1_closeVote 5 = .ok (.aload_n 0, 1) := by decide +kernel
theorem dX1_closeVote_6 : decode cX1_closeVote 6 = .ok (.invokevirtual 123, 3) := by decide +kernel
theorem dX1_closeVote_9 : decode cX1_closeVote 9 = .ok (.istore_n 1, 1) := by decide +kernel
theorem dX1_closeVote_10 : decode cX1_closeVote 10 = .ok (.aload_n 0, 1) := by decide +kernel
theorem dX1_closeVote_11 : decode cX1_closeVote 11 = .ok (.invokevirtual 72, 3) := by decide +kernel
theorem dX1_closeVote_14 : decode cX1_closeVote 14 = .ok (.aload_n 0, 1) := by decide +kernel
theorem dX1_closeVote_15 : decode cX1_closeVote 15 = .ok (.iconst 2, 1) := by decide +kernel
theorem dX1_closeVote_16 : decode cX1_closeVote 16 = .ok (.putfield 20, 3) := by decide +kernel
theorem dX1_closeVote_19 : decode cX1_closeVote 19 = .ok (.iload_n 1, 1) := by decide +kernel
theorem dX1_closeVote_20 : decode cX1_closeVote 20 = .ok (.iconst (-1), 1) := by decide +kernel
theorem dX1_closeVote_21 : decode cX1_closeVote 21 = .ok (.if_icmp .eq 8, 3) := by decide +kernel
theorem dX1_closeVote_24 : decode cX1_closeVote 24 = .ok (.aload_n 0, 1) := by decide +kernel
theorem dX1_closeVote_25 : decode cX1_closeVote 25 = .ok (.iload_n 1, 1) := by decide +kernel
theorem dX1_closeVote_26 : decode cX1_closeVote 26 = .ok (.invokevirtual 127, 3) := by decide +kernel
theorem dX1_closeVote_29 : decode cX1_closeVote 29 = .ok (.iload_n 1, 1) := by decide +kernel
theorem dX1_closeVote_30 : decode cX1_closeVote 30 = .ok (.ireturn, 1) := by decide +kernel
set_option maxRecDepth 20000 in
theorem ggX1_protect_X1_requirePhase : GoodIn wsX1_protect wsX1_requirePhase := goodIn_ca (goodIn_r _ [10, 11, 12, 13, 33, 34, 35, 36, 37, 38, 39, 40, 41, 42, 43, 44, 45, 46] (by decide +kernel) (by decide +kernel)) (goodIn_sub (fun _ h => List.mem_cons_of_mem _ (List.mem_append_left _ (List.mem_append_right _ h))) (by decide +kernel))
set_option maxRecDepth 20000 in
theorem gX1_protect_X1_requirePhase : GoodIn wsX1_protect (wsV RX1 111 RX1 yX1_requirePhase wsX1_requirePhase) := goodIn_app (goodIn_of _ (by decide +kernel)) ggX1_protect_X1_requirePhase
set_option maxRecDepth 20000 in
theorem ggX1_protect_X1_requireToLive : GoodIn wsX1_protect wsX1_requireToLive := goodIn_ca (goodIn_r _ [17, 11, 12, 18, 19, 20, 9, 21, 22, 23, 24, 25, 33, 34, 35, 36, 37, 38, 39, 40, 41, 42, 43, 44, 45, 46] (by decide +kernel) (by decide +kernel)) (goodIn_sub (fun _ h => List.mem_cons_of_mem _ (List.mem_append_left _ (List.mem_append_right _ h))) (by decide +kernel))
set_option maxRecDepth 20000 in
theorem gX1_protect_X1_requireToLive : GoodIn wsX1_protect (wsV RX1 130 RX1 yX1_requireToLive wsX1_requireToLive) := goodIn_app (goodIn_of _ (by decide +kernel)) ggX1_protect_X1_requireToLive
set_option maxRecDepth 20000 in
theorem ggX1_protect_X1_requirePlayer : GoodIn wsX1_protect wsX1_requirePlayer := goodIn_ca (goodIn_r _ [29, 30, 31, 32, 33, 34, 35, 36, 37, 38, 39, 40, 41, 42, 43, 44, 45, 46] (by decide +kernel) (by decide +kernel)) (goodIn_sub (fun _ h => List.mem_cons_of_mem _ (List.mem_append_right _ h)) (by decide +kernel))
set_option maxRecDepth 20000 in
theorem gX1_protect_X1_requirePlayer : GoodIn wsX1_protect (wsV RX1 95 RX1 yX1_requirePlayer wsX1_requirePlayer) := goodIn_app (goodIn_of _ (by decide +kernel)) ggX1_protect_X1_requirePlayer
set_option maxRecDepth 20000 in
theorem ggX1_protect_X1_isAlive : GoodIn wsX1_protect wsX1_isAlive := goodIn_r _ [21, 22, 23, 24, 9, 25, 33, 34, 35, 36, 37, 38, 39, 40, 41, 42, 43, 44, 45, 46] (by decide +kernel) (by decide +kernel)
set_option maxRecDepth 20000 in
theorem gX1_protect_X1_isAlive : GoodIn wsX1_protect (wsV RX1 114 RX1 yX1_isAlive wsX1_isAlive) := goodIn_app (goodIn_of _ (by decide +kernel)) ggX1_protect_X1_isAlive
theorem dX1_protect_0 : decode cX1_protect 0 = .ok (.aload_n 0, 1) := by decide +kernel
theorem dX1_protect_1 : decode cX1_protect 1 = .ok (.iconst 2, 1) := by decide +kernel
theorem dX1_protect_2 : decode cX1_protect 2 = .ok (.invokevirtual 111, 3) := by decide +kernel
theorem dX1_protect_5 : decode cX1_protect 5 = .ok (.aload_n 0, 1) := by decide +kernel
theorem dX1_protect_6 : decode cX1_protect 6 = .ok (.aload_n 0, 1) := by decide +kernel
theorem dX1_protect_7 : decode cX1_protect 7 = .ok (.getfield 56, 3) := by decide +kernel
theorem dX1_protect_10 : decode cX1_protect 10 = .ok (.invokevirtual 130, 3) := by decide +kernel
theorem dX1_protect_13 : decode cX1_protect 13 = .ok (.aload_n 0, 1) := by decide +kernel
theorem dX1_protect_14 : decode cX1_protect 14 = .ok (.iload_n 1, 1) := by decide +kernel
theorem dX1_protect_15 : decode cX1_protect 15 = .ok (.invokevirtual 95, 3) := by decide +kernel
theorem dX1_protect_18 : decode cX1_protect 18 = .ok (.aload_n 0, 1) := by decide +kernel
theorem dX1_protect_19 : decode cX1_protect 19 = .ok (.iload_n 1, 1) := by decide +kernel
theorem dX1_protect_20 : decode cX1_protect 20 = .ok (.invokevirtual 114, 3) := by decide +kernel
theorem dX1_protect_23 : decode cX1_protect 23 = .ok (.ifCond .eq 11, 3) := by decide +kernel
theorem dX1_protect_26 : decode cX1_protect 26 = .ok (.iload_n 1, 1) := by decide +kernel
theorem dX1_protect_27 : decode cX1_protect 27 = .ok (.aload_n 0, 1) := by decide +kernel
theorem dX1_protect_28 : decode cX1_protect 28 = .ok (.getfield 33, 3) := by decide +kernel
theorem dX1_protect_31 : decode cX1_protect 31 = .ok (.if_icmp .ne 13, 3) := by decide +kernel
theorem dX1_protect_34 : decode cX1_protect 34 = .ok (.new 40, 3) := by decide +kernel
theorem dX1_protect_37 : decode cX1_protect 37 = .ok (.dup, 1) := by decide +kernel
theorem dX1_protect_38 : decode cX1_protect 38 = .ok (.ldc 133, 2) := by decide +kernel
theorem dX1_protect_40 : decode cX1_protect 40 = .ok (.invokespecial 44, 3) := by decide +kernel
theorem dX1_protect_43 : decode cX1_protect 43 = .ok (.athrow, 1) := by decide +kernel
theorem dX1_protect_44 : decode cX1_protect 44 = .ok (.aload_n 0, 1) := by decide +kernel
theorem dX1_protect_45 : decode cX1_protect 45 = .ok (.getfield 24, 3) := by decide +kernel
theorem dX1_protect_48 : decode cX1_protect 48 = .ok (.istore_n 2, 1) := by decide +kernel
theorem dX1_protect_49 : decode cX1_protect 49 = .ok (.aload_n 0, 1) := by decide +kernel
theorem dX1_protect_50 : decode cX1_protect 50 = .ok (.iload_n 1, 1) := by decide +kernel
theorem dX1_protect_51 : decode cX1_protect 51 = .ok (.putfield 24, 3) := by decide +kernel
theorem dX1_protect_54 : decode cX1_protect 54 = .ok (.iload_n 2, 1) := by decide +kernel
theorem dX1_protect_55 : decode cX1_protect 55 = .ok (.ireturn, 1) := by decide +kernel
set_option maxRecDepth 20000 in
theorem ggX1_attack_X1_requirePhase : GoodIn wsX1_attack wsX1_requirePhase := goodIn_ca (goodIn_r _ [8, 9, 10, 11, 32, 33, 34, 35, 36, 37, 38, 39, 40, 41, 42, 43, 44, 45] (by decide +kernel) (by decide +kernel)) (goodIn_sub (fun _ h => List.mem_cons_of_mem _ (List.mem_append_left _ (List.mem_append_right _ h))) (by decide +kernel))
set_option maxRecDepth 20000 in
theorem gX1_attack_X1_requirePhase : GoodIn wsX1_attack (wsV RX1 111 RX1 yX1_requirePhase wsX1_requirePhase) := goodIn_app (goodIn_of _ (by decide +kernel)) ggX1_attack_X1_requirePhase
set_option maxRecDepth 20000 in
theorem ggX1_attack_X1_requirePlayer : GoodIn wsX1_attack wsX1_requirePlayer := goodIn_ca (goodIn_r _ [15, 16, 17, 18, 32, 33, 34, 35, 36, 37, 38, 39, 40, 41, 42, 43, 44, 45] (by decide +kernel) (by decide +kernel)) (goodIn_sub (fun _ h => List.mem_cons_of_mem _ (List.mem_append_right _ h)) (by decide +kernel))
set_option maxRecDepth 20000 in
theorem gX1_attack_X1_requirePlayer : GoodIn wsX1_attack (wsV RX1 95 RX1 yX1_requirePlayer wsX1_requirePlayer) := goodIn_app (goodIn_of _ (by decide +kernel)) ggX1_attack_X1_requirePlayer
set_option maxRecDepth 20000 in
theorem ggX1_attack_X1_isAlive : GoodIn wsX1_attack wsX1_isAlive := goodIn_r _ [22, 23, 24, 25, 7, 26, 32, 33, 34, 35, 36, 37, 38, 39, 40, 41, 42, 43, 44, 45] (by decide +kernel) (by decide +kernel)
set_option maxRecDepth 20000 in
theorem gX1_attack_X1_isAlive : GoodIn wsX1_attack (wsV RX1 114 RX1 yX1_isAlive wsX1_isAlive) := goodIn_app (goodIn_of _ (by decide +kernel)) ggX1_attack_X1_isAlive
set_option maxRecDepth 20000 in
theorem ggX1_attack_X1_isWitch : GoodIn wsX1_attack wsX1_isWitch := goodIn_r _ [30, 31, 24, 25, 7, 26, 32, 33, 34, 35, 36, 37, 38, 39, 40, 41, 42, 43, 44, 45] (by decide +kernel) (by decide +kernel)
set_option maxRecDepth 20000 in
theorem gX1_attack_X1_isWitch : GoodIn wsX1_attack (wsV RX1 135 RX1 yX1_isWitch wsX1_isWitch) := goodIn_app (goodIn_of _ (by decide +kernel)) ggX1_attack_X1_isWitch
theorem dX1_attack_0 : decode cX1_attack 0 = .ok (.aload_n 0, 1) := by decide +kernel
theorem dX1_attack_1 : decode cX1_attack 1 = .ok (.iconst 2, 1) := by decide +kernel
theorem dX1_attack_2 : decode cX1_attack 2 = .ok (.invokevirtual 111, 3) := by decide +kernel
theorem dX1_attack_5 : decode cX1_attack 5 = .ok (.aload_n 0, 1) := by decide +kernel
theorem dX1_attack_6 : decode cX1_attack 6 = .ok (.iload_n 1, 1) := by decide +kernel
theorem dX1_attack_7 : decode cX1_attack 7 = .ok (.invokevirtual 95, 3) := by decide +kernel
theorem dX1_attack_10 : decode cX1_attack 10 = .ok (.aload_n 0, 1) := by decide +kernel
theorem dX1_attack_11 : decode cX1_attack 11 = .ok (.iload_n 1, 1) := by decide +kernel
theorem dX1_attack_12 : decode cX1_attack 12 = .ok (.invokevirtual 114, 3) := by decide +kernel
theorem dX1_attack_15 : decode cX1_attack 15 = .ok (.ifCond .eq 11, 3) := by decide +kernel
theorem dX1_attack_18 : decode cX1_attack 18 = .ok (.aload_n 0, 1) := by decide +kernel
theorem dX1_attack_19 : decode cX1_attack 19 = .ok (.iload_n 1, 1) := by decide +kernel
theorem dX1_attack_20 : decode cX1_attack 20 = .ok (.invokevirtual 135, 3) := by decide +kernel
theorem dX1_attack_23 : decode cX1_attack 23 = .ok (.ifCond .eq 13, 3) := by decide +kernel
theorem dX1_attack_26 : decode cX1_attack 26 = .ok (.new 40, 3) := by decide +kernel
theorem dX1_attack_29 : decode cX1_attack 29 = .ok (.dup, 1) := by decide +kernel
theorem dX1_attack_30 : decode cX1_attack 30 = .ok (.ldc 138, 2) := by decide +kernel
theorem dX1_attack_32 : decode cX1_attack 32 = .ok (.invokespecial 44, 3) := by decide +kernel
theorem dX1_attack_35 : decode cX1_attack 35 = .ok (.athrow, 1) := by decide +kernel
theorem dX1_attack_36 : decode cX1_attack 36 = .ok (.aload_n 0, 1) := by decide +kernel
theorem dX1_attack_37 : decode cX1_attack 37 = .ok (.getfield 27, 3) := by decide +kernel
theorem dX1_attack_40 : decode cX1_attack 40 = .ok (.istore_n 2, 1) := by decide +kernel
theorem dX1_attack_41 : decode cX1_attack 41 = .ok (.aload_n 0, 1) := by decide +kernel
theorem dX1_attack_42 : decode cX1_attack 42 = .ok (.iload_n 1, 1) := by decide +kernel
theorem dX1_attack_43 : decode cX1_attack 43 = .ok (.putfield 27, 3) := by decide +kernel
theorem dX1_attack_46 : decode cX1_attack 46 = .ok (.iload_n 2, 1) := by decide +kernel
theorem dX1_attack_47 : decode cX1_attack 47 = .ok (.ireturn, 1) := by decide +kernel
set_option maxRecDepth 20000 in
theorem ggX1_look_X1_requirePhase : GoodIn wsX1_look wsX1_requirePhase := goodIn_ca (goodIn_r _ [9, 10, 11, 12, 32, 33, 34, 35, 36, 37, 38, 39, 40, 41, 42, 43, 44, 45] (by decide +kernel) (by decide +kernel)) (goodIn_sub (fun _ h => List.mem_cons_of_mem _ (List.mem_append_left _ (List.mem_append_right _ h))) (by decide +kernel))
set_option maxRecDepth 20000 in
theorem gX1_look_X1_requirePhase : GoodIn wsX1_look (wsV RX1 111 RX1 yX1_requirePhase wsX1_requirePhase) := goodIn_app (goodIn_of _ (by decide +kernel)) ggX1_look_X1_requirePhase
set_option maxRecDepth 20000 in
theorem ggX1_look_X1_requireToLive : GoodIn wsX1_look wsX1_requireToLive := goodIn_ca (goodIn_r _ [16, 10, 11, 17, 18, 19, 8, 20, 21, 22, 23, 24, 32, 33, 34, 35, 36, 37, 38, 39, 40, 41, 42, 43, 44, 45] (by decide +kernel) (by decide +kernel)) (goodIn_sub (fun _ h => List.mem_cons_of_mem _ (List.mem_append_left _ (List.mem_append_right _ h))) (by decide +kernel))
set_option maxRecDepth 20000 in
theorem gX1_look_X1_requireToLive : GoodIn wsX1_look (wsV RX1 130 RX1 yX1_requireToLive wsX1_requireToLive) := goodIn_app (goodIn_of _ (by decide +kernel)) ggX1_look_X1_requireToLive
set_option maxRecDepth 20000 in
theorem ggX1_look_X1_requirePlayer : GoodIn wsX1_look wsX1_requirePlayer := goodIn_ca (goodIn_r _ [28, 29, 30, 31, 32, 33, 34, 35, 36, 37, 38, 39, 40, 41, 42, 43, 44, 45] (by decide +kernel) (by decide +kernel)) (goodIn_sub (fun _ h => List.mem_cons_of_mem _ (List.mem_append_right _ h)) (by decide +kernel))
set_option maxRecDepth 20000 in
theorem gX1_look_X1_requirePlayer : GoodIn wsX1_look (wsV RX1 95 RX1 yX1_requirePlayer wsX1_requirePlayer) := goodIn_app (goodIn_of _ (by decide +kernel)) ggX1_look_X1_requirePlayer
set_option maxRecDepth 20000 in
theorem ggX1_look_X1_isAlive : GoodIn wsX1_look wsX1_isAlive := goodIn_r _ [20, 21, 22, 23, 8, 24, 32, 33, 34, 35, 36, 37, 38, 39, 40, 41, 42, 43, 44, 45] (by decide +kernel) (by decide +kernel)
set_option maxRecDepth 20000 in
theorem gX1_look_X1_isAlive : GoodIn wsX1_look (wsV RX1 114 RX1 yX1_isAlive wsX1_isAlive) := goodIn_app (goodIn_of _ (by decide +kernel)) ggX1_look_X1_isAlive
theorem dX1_look_0 : decode cX1_look 0 = .ok (.aload_n 0, 1) := by decide +kernel
theorem dX1_look_1 : decode cX1_look 1 = .ok (.iconst 2, 1) := by decide +kernel
theorem dX1_look_2 : decode cX1_look 2 = .ok (.invokevirtual 111, 3) := by decide +kernel
theorem dX1_look_5 : decode cX1_look 5 = .ok (.aload_n 0, 1) := by decide +kernel
theorem dX1_look_6 : decode cX1_look 6 = .ok (.aload_n 0, 1) := by decide +kernel
theorem dX1_look_7 : decode cX1_look 7 = .ok (.getfield 53, 3) := by decide +kernel
theorem dX1_look_10 : decode cX1_look 10 = .ok (.invokevirtual 130, 3) := by decide +kernel
theorem dX1_look_13 : decode cX1_look 13 = .ok (.aload_n 0, 1) := by decide +kernel
theorem dX1_look_14 : decode cX1_look 14 = .ok (.iload_n 1, 1) := by decide +kernel
theorem dX1_look_15 : decode cX1_look 15 = .ok (.invokevirtual 95, 3) := by decide +kernel
theorem dX1_look_18 : decode cX1_look 18 = .ok (.aload_n 0, 1) := by decide +kernel
theorem dX1_look_19 : decode cX1_look 19 = .ok (.iload_n 1, 1) := by decide +kernel
theorem dX1_look_20 : decode cX1_look 20 = .ok (.invokevirtual 114, 3) := by decide +kernel
theorem dX1_look_23 : decode cX1_look 23 = .ok (.ifCond .eq 11, 3) := by decide +kernel
theorem dX1_look_26 : decode cX1_look 26 = .ok (.iload_n 1, 1) := by decide +kernel
theorem dX1_look_27 : decode cX1_look 27 = .ok (.aload_n 0, 1) := by decide +kernel
theorem dX1_look_28 : decode cX1_look 28 = .ok (.getfield 53, 3) := by decide +kernel
theorem dX1_look_31 : decode cX1_look 31 = .ok (.if_icmp .ne 13, 3) := by decide +kernel
theorem dX1_look_34 : decode cX1_look 34 = .ok (.new 40, 3) := by decide +kernel
theorem dX1_look_37 : decode cX1_look 37 = .ok (.dup, 1) := by decide +kernel
theorem dX1_look_38 : decode cX1_look 38 = .ok (.ldc 140, 2) := by decide +kernel
theorem dX1_look_40 : decode cX1_look 40 = .ok (.invokespecial 44, 3) := by decide +kernel
theorem dX1_look_43 : decode cX1_look 43 = .ok (.athrow, 1) := by decide +kernel
theorem dX1_look_44 : decode cX1_look 44 = .ok (.aload_n 0, 1) := by decide +kernel
theorem dX1_look_45 : decode cX1_look 45 = .ok (.getfield 30, 3) := by decide +kernel
theorem dX1_look_48 : decode cX1_look 48 = .ok (.istore_n 2, 1) := by decide +kernel
theorem dX1_look_49 : decode cX1_look 49 = .ok (.aload_n 0, 1) := by decide +kernel
theorem dX1_look_50 : decode cX1_look 50 = .ok (.iload_n 1, 1) := by decide +kernel
theorem dX1_look_51 : decode cX1_look 51 = .ok (.putfield 30, 3) := by decide +kernel
theorem dX1_look_54 : decode cX1_look 54 = .ok (.iload_n 2, 1) := by decide +kernel
theorem dX1_look_55 : decode cX1_look 55 = .ok (.ireturn, 1) := by decide +kernel
set_option maxRecDepth 20000 in
theorem ggX1_endNight_X1_requirePhase : GoodIn wsX1_endNight wsX1_requirePhase := goodIn_ca (goodIn_r _ [10, 11, 12, 3, 44, 45, 46, 47, 48, 49, 50, 51, 52, 53, 54, 55, 56, 57] (by decide +kernel) (by decide +kernel)) (goodIn_sub (fun _ h => List.mem_cons_of_mem _ (List.mem_append_right _ h)) (by decide +kernel))
set_option maxRecDepth 20000 in
theorem gX1_endNight_X1_requirePhase : GoodIn wsX1_endNight (wsV RX1 111 RX1 yX1_requirePhase wsX1_requirePhase) := goodIn_app (goodIn_of _ (by decide +kernel)) ggX1_endNight_X1_requirePhase
set_option maxRecDepth 20000 in
theorem ggX1_endNight_X1_die : GoodIn wsX1_endNight wsX1_die := goodIn_r _ [16, 17, 18, 3, 19, 20, 9, 21, 22, 23, 24, 25, 26, 27, 28, 44, 45, 46, 47, 48, 49, 50, 51, 52, 53, 54, 55, 56, 57] (by decide +kernel) (by decide +kernel)
set_option maxRecDepth 20000 in
theorem gX1_endNight_X1_die : GoodIn wsX1_endNight (wsV RX1 127 RX1 yX1_die wsX1_die) := goodIn_app (goodIn_of _ (by decide +kernel)) ggX1_endNight_X1_die
set_option maxRecDepth 20000 in
theorem ggX1_endNight_X1_seerLooks : GoodIn wsX1_endNight wsX1_seerLooks := goodIn_r _ [32, 33, 34, 35, 36, 37, 38, 9, 39, 17, 19, 20, 21, 44, 45, 46, 47, 48, 49, 50, 51, 52, 53, 54, 55, 56, 57] (by decide +kernel) (by decide +kernel)
set_option maxRecDepth 20000 in
theorem gX1_endNight_X1_seerLooks : GoodIn wsX1_endNight (wsV RX1 142 RX1 yX1_seerLooks wsX1_seerLooks) := goodIn_app (goodIn_of _ (by decide +kernel)) ggX1_endNight_X1_seerLooks
set_option maxRecDepth 20000 in
theorem ggX1_endNight_X1_forgetChoices : GoodIn wsX1_endNight wsX1_forgetChoices := goodIn_r _ [43, 2, 1, 33, 44, 45, 46, 47, 48, 49, 50, 51, 52, 53, 54, 55, 56, 57] (by decide +kernel) (by decide +kernel)
set_option maxRecDepth 20000 in
theorem gX1_endNight_X1_forgetChoices : GoodIn wsX1_endNight (wsV RX1 75 RX1 yX1_forgetChoices wsX1_forgetChoices) := goodIn_app (goodIn_of _ (by decide +kernel)) ggX1_endNight_X1_forgetChoices
theorem dX1_endNight_0 : decode cX1_endNight 0 = .ok (.aload_n 0, 1) := by decide +kernel
theorem dX1_endNight_1 : decode cX1_endNight 1 = .ok (.iconst 2, 1) := by decide +kernel
theorem dX1_endNight_2 : decode cX1_endNight 2 = .ok (.invokevirtual 111, 3) := by decide +kernel
theorem dX1_endNight_5 : decode cX1_endNight 5 = .ok (.aload_n 0, 1) := by decide +kernel
theorem dX1_endNight_6 : decode cX1_endNight 6 = .ok (.getfield 27, 3) := by decide +kernel
theorem dX1_endNight_9 : decode cX1_endNight 9 = .ok (.aload_n 0, 1) := by decide +kernel
theorem dX1_endNight_10 : decode cX1_endNight 10 = .ok (.getfield 24, 3) := by decide +kernel
theorem dX1_endNight_13 : decode cX1_endNight 13 = .ok (.if_icmp .ne 7, 3) := by decide +kernel
theorem dX1_endNight_16 : decode cX1_endNight 16 = .ok (.iconst (-1), 1) := by decide +kernel
theorem dX1_endNight_17 : decode cX1_endNight 17 = .ok (.goto 7, 3) := by decide +kernel
theorem dX1_endNight_20 : decode cX1_endNight 20 = .ok (.aload_n 0, 1) := by decide +kernel
theorem dX1_endNight_21 : decode cX1_endNight 21 = .ok (.getfield 27, 3) := by decide +kernel
theorem dX1_endNight_24 : decode cX1_endNight 24 = .ok (.istore_n 1, 1) := by decide +kernel
theorem dX1_endNight_25 : decode cX1_endNight 25 = .ok (.iload_n 1, 1) := by decide +kernel
theorem dX1_endNight_26 : decode cX1_endNight 26 = .ok (.iconst (-1), 1) := by decide +kernel
theorem dX1_endNight_27 : decode cX1_endNight 27 = .ok (.if_icmp .eq 8, 3) := by decide +kernel
theorem dX1_endNight_30 : decode cX1_endNight 30 = .ok (.aload_n 0, 1) := by decide +kernel
theorem dX1_endNight_31 : decode cX1_endNight 31 = .ok (.iload_n 1, 1) := by decide +kernel
theorem dX1_endNight_32 : decode cX1_endNight 32 = .ok (.invokevirtual 127, 3) := by decide +kernel
theorem dX1_endNight_35 : decode cX1_endNight 35 = .ok (.aload_n 0, 1) := by decide +kernel
theorem dX1_endNight_36 : decode cX1_endNight 36 = .ok (.getfield 20, 3) := by decide +kernel
theorem dX1_endNight_39 : decode cX1_endNight 39 = .ok (.iconst 2, 1) := by decide +kernel
theorem dX1_endNight_40 : decode cX1_endNight 40 = .ok (.if_icmp .ne 22, 3) := by decide +kernel
theorem dX1_endNight_43 : decode cX1_endNight 43 = .ok (.aload_n 0, 1) := by decide +kernel
theorem dX1_endNight_44 : decode cX1_endNight 44 = .ok (.invokevirtual 142, 3) := by decide +kernel
theorem dX1_endNight_47 : decode cX1_endNight 47 = .ok (.aload_n 0, 1) := by decide +kernel
theorem dX1_endNight_48 : decode cX1_endNight 48 = .ok (.dup, 1) := by decide +kernel
theorem dX1_endNight_49 : decode cX1_endNight 49 = .ok (.getfield 69, 3) := by decide +kernel
theorem dX1_endNight_52 : decode cX1_endNight 52 = .ok (.iconst 1, 1) := by decide +kernel
theorem dX1_endNight_53 : decode cX1_endNight 53 = .ok (.iadd, 1) := by decide +kernel
theorem dX1_endNight_54 : decode cX1_endNight 54 = .ok (.putfield 69, 3) := by decide +kernel
theorem dX1_endNight_57 : decode cX1_endNight 57 = .ok (.aload_n 0, 1) := by decide +kernel
theorem dX1_endNight_58 : decode cX1_endNight 58 = .ok (.iconst 1, 1) := by decide +kernel
theorem dX1_endNight_59 : decode cX1_endNight 59 = .ok (.putfield 20, 3) := by decide +kernel
theorem dX1_endNight_62 : decode cX1_endNight 62 = .ok (.aload_n 0, 1) := by decide +kernel
theorem dX1_endNight_63 : decode cX1_endNight 63 = .ok (.aload_n 0, 1) := by decide +kernel
theorem dX1_endNight_64 : decode cX1_endNight 64 = .ok (.getfield 24, 3) := by decide +kernel
theorem dX1_endNight_67 : decode cX1_endNight 67 = .ok (.putfield 33, 3) := by decide +kernel
theorem dX1_endNight_70 : decode cX1_endNight 70 = .ok (.aload_n 0, 1) := by decide +kernel
theorem dX1_endNight_71 : decode cX1_endNight 71 = .ok (.invokevirtual 75, 3) := by decide +kernel
theorem dX1_endNight_74 : decode cX1_endNight 74 = .ok (.iload_n 1, 1) := by decide +kernel
theorem dX1_endNight_75 : decode cX1_endNight 75 = .ok (.ireturn, 1) := by decide +kernel
set_option maxRecDepth 20000 in
theorem ggX1_day_X1_requireGame : GoodIn wsX1_day wsX1_requireGame := goodIn_ca (goodIn_r _ [6, 7, 8, 9, 10, 11, 12, 13, 14, 15, 16, 17, 18, 19, 20, 21, 22, 23] (by decide +kernel) (by decide +kernel)) (goodIn_sub (fun _ h => List.mem_cons_of_mem _ (List.mem_append_right _ h)) (by decide +kernel))
set_option maxRecDepth 20000 in
theorem gX1_day_X1_requireGame : GoodIn wsX1_day (wsV RX1 92 RX1 yX1_requireGame wsX1_requireGame) := goodIn_app (goodIn_of _ (by decide +kernel)) ggX1_day_X1_requireGame
theorem dX1_day_0 : decode cX1_day 0 = .ok (.aload_n 0, 1) := by decide +kernel
theorem dX1_day_1 : decode cX1_day 1 = .ok (.invokevirtual 92, 3) := by decide +kernel
theorem dX1_day_4 : decode cX1_day 4 = .ok (.aload_n 0, 1) := by decide +kernel
theorem dX1_day_5 : decode cX1_day 5 = .ok (.getfield 69, 3) := by decide +kernel
theorem dX1_day_8 : decode cX1_day 8 = .ok (.ireturn, 1) := by decide +kernel
set_option maxRecDepth 20000 in
theorem ggX1_alive_X1_requireGame : GoodIn wsX1_alive wsX1_requireGame := goodIn_ca (goodIn_r _ [6, 7, 8, 9, 10, 11, 12, 13, 14, 15, 16, 17, 18, 19, 20, 21, 22, 23] (by decide +kernel) (by decide +kernel)) (goodIn_sub (fun _ h => List.mem_cons_of_mem _ (List.mem_append_right _ h)) (by decide +kernel))
set_option maxRecDepth 20000 in
theorem gX1_alive_X1_requireGame : GoodIn wsX1_alive (wsV RX1 92 RX1 yX1_requireGame wsX1_requireGame) := goodIn_app (goodIn_of _ (by decide +kernel)) ggX1_alive_X1_requireGame
theorem dX1_alive_0 : decode cX1_alive 0 = .ok (.aload_n 0, 1) := by decide +kernel
theorem dX1_alive_1 : decode cX1_alive 1 = .ok (.invokevirtual 92, 3) := by decide +kernel
theorem dX1_alive_4 : decode cX1_alive 4 = .ok (.aload_n 0, 1) := by decide +kernel
theorem dX1_alive_5 : decode cX1_alive 5 = .ok (.getfield 63, 3) := by decide +kernel
theorem dX1_alive_8 : decode cX1_alive 8 = .ok (.ireturn, 1) := by decide +kernel
set_option maxRecDepth 20000 in
theorem ggX1_votesFor_X1_requireGame : GoodIn wsX1_votesFor wsX1_requireGame := goodIn_ca (goodIn_r _ [5, 6, 7, 8, 21, 22, 23, 24, 25, 26, 27, 28, 29, 30, 31, 32, 33, 34] (by decide +kernel) (by decide +kernel)) (goodIn_sub (fun _ h => List.mem_cons_of_mem _ (List.mem_append_left _ (List.mem_append_right _ h))) (by decide +kernel))
set_option maxRecDepth 20000 in
theorem gX1_votesFor_X1_requireGame : GoodIn wsX1_votesFor (wsV RX1 92 RX1 yX1_requireGame wsX1_requireGame) := goodIn_app (goodIn_of _ (by decide +kernel)) ggX1_votesFor_X1_requireGame
set_option maxRecDepth 20000 in
theorem ggX1_votesFor_X1_requirePlayer : GoodIn wsX1_votesFor wsX1_requirePlayer := goodIn_ca (goodIn_r _ [12, 13, 14, 15, 21, 22, 23, 24, 25, 26, 27, 28, 29, 30, 31, 32, 33, 34] (by decide +kernel) (by decide +kernel)) (goodIn_sub (fun _ h => List.mem_cons_of_mem _ (List.mem_append_right _ h)) (by decide +kernel))
set_option maxRecDepth 20000 in
theorem gX1_votesFor_X1_requirePlayer : GoodIn wsX1_votesFor (wsV RX1 95 RX1 yX1_requirePlayer wsX1_requirePlayer) := goodIn_app (goodIn_of _ (by decide +kernel)) ggX1_votesFor_X1_requirePlayer
set_option maxRecDepth 20000 in
theorem ggX1_votesFor_X1_countVotes : GoodIn wsX1_votesFor wsX1_countVotes := goodIn_r _ [19, 20, 21, 22, 23, 24, 25, 26, 27, 28, 29, 30, 31, 32, 33, 34] (by decide +kernel) (by decide +kernel)
set_option maxRecDepth 20000 in
theorem gX1_votesFor_X1_countVotes : GoodIn wsX1_votesFor (wsV RX1 120 RX1 yX1_countVotes wsX1_countVotes) := goodIn_app (goodIn_of _ (by decide +kernel)) ggX1_votesFor_X1_countVotes
theorem dX1_votesFor_0 : decode cX1_votesFor 0 = .ok (.aload_n 0, 1) := by decide +kernel
theorem dX1_votesFor_1 : decode cX1_votesFor 1 = .ok (.invokevirtual 92, 3) := by decide +kernel
theorem dX1_votesFor_4 : decode cX1_votesFor 4 = .ok (.aload_n 0, 1) := by decide +kernel
theorem dX1_votesFor_5 : decode cX1_votesFor 5 = .ok (.iload_n 1, 1) := by decide +kernel
theorem dX1_votesFor_6 : decode cX1_votesFor 6 = .ok (.invokevirtual 95, 3) := by decide +kernel
theorem dX1_votesFor_9 : decode cX1_votesFor 9 = .ok (.aload_n 0, 1) := by decide +kernel
theorem dX1_votesFor_10 : decode cX1_votesFor 10 = .ok (.iload_n 1, 1) := by decide +kernel
theorem dX1_votesFor_11 : decode cX1_votesFor 11 = .ok (.invokevirtual 120, 3) := by decide +kernel
theorem dX1_votesFor_14 : decode cX1_votesFor 14 = .ok (.ireturn, 1) := by decide +kernel
set_option maxRecDepth 20000 in
theorem ggX1_lookedAt_X1_requireGame : GoodIn wsX1_lookedAt wsX1_requireGame := goodIn_ca (goodIn_r _ [6, 7, 8, 9, 10, 11, 12, 13, 14, 15, 16, 17, 18, 19, 20, 21, 22, 23] (by decide +kernel) (by decide +kernel)) (goodIn_sub (fun _ h => List.mem_cons_of_mem _ (List.mem_append_right _ h)) (by decide +kernel))
set_option maxRecDepth 20000 in
theorem gX1_lookedAt_X1_requireGame : GoodIn wsX1_lookedAt (wsV RX1 92 RX1 yX1_requireGame wsX1_requireGame) := goodIn_app (goodIn_of _ (by decide +kernel)) ggX1_lookedAt_X1_requireGame
theorem dX1_lookedAt_0 : decode cX1_lookedAt 0 = .ok (.aload_n 0, 1) := by decide +kernel
theorem dX1_lookedAt_1 : decode cX1_lookedAt 1 = .ok (.invokevirtual 92, 3) := by decide +kernel
theorem dX1_lookedAt_4 : decode cX1_lookedAt 4 = .ok (.aload_n 0, 1) := by decide +kernel
theorem dX1_lookedAt_5 : decode cX1_lookedAt 5 = .ok (.getfield 66, 3) := by decide +kernel
theorem dX1_lookedAt_8 : decode cX1_lookedAt 8 = .ok (.ireturn, 1) := by decide +kernel
set_option maxRecDepth 20000 in
theorem ggX1_worlds_X1_requireGame : GoodIn wsX1_worlds wsX1_requireGame := goodIn_ca (goodIn_r _ [6, 7, 8, 9, 52, 53, 54, 55, 56, 57, 58, 59, 60, 61, 62, 63, 64, 65] (by decide +kernel) (by decide +kernel)) (goodIn_sub (fun _ h => List.mem_cons_of_mem _ (List.mem_append_left _ (List.mem_append_right _ h))) (by decide +kernel))
set_option maxRecDepth 20000 in
theorem gX1_worlds_X1_requireGame : GoodIn wsX1_worlds (wsV RX1 92 RX1 yX1_requireGame wsX1_requireGame) := goodIn_app (goodIn_of _ (by decide +kernel)) ggX1_worlds_X1_requireGame
set_option maxRecDepth 20000 in
theorem ggX1_worlds_X1_requireViewer : GoodIn wsX1_worlds wsX1_requireViewer := goodIn_ca (goodIn_r _ [13, 14, 15, 16, 5, 17, 18, 19, 20, 52, 53, 54, 55, 56, 57, 58, 59, 60, 61, 62, 63, 64, 65] (by decide +kernel) (by decide +kernel)) (goodIn_sub (fun _ h => List.mem_cons_of_mem _ (List.mem_append_right _ h)) (by decide +kernel))
set_option maxRecDepth 20000 in
theorem gX1_worlds_X1_requireViewer : GoodIn wsX1_worlds (wsV RX1 145 RX1 yX1_requireViewer wsX1_requireViewer) := goodIn_app (goodIn_of _ (by decide +kernel)) ggX1_worlds_X1_requireViewer
set_option maxRecDepth 20000 in
theorem ggX1_worlds_X1_knownBits : GoodIn wsX1_worlds wsX1_knownBits := goodIn_r _ [24, 20, 25, 26, 27, 28, 29, 5, 30, 31, 32, 33, 34, 35, 36, 37, 38, 39, 40, 41, 52, 53, 54, 55, 56, 57, 58, 59, 60, 61, 62, 63, 64, 65] (by decide +kernel) (by decide +kernel)
set_option maxRecDepth 20000 in
theorem gX1_worlds_X1_knownBits : GoodIn wsX1_worlds (wsV RX1 86 RX1 yX1_knownBits wsX1_knownBits) := goodIn_app (goodIn_of _ (by decide +kernel)) ggX1_worlds_X1_knownBits
set_option maxRecDepth 20000 in
theorem ggX1_worlds_X0_count : GoodIn wsX1_worlds wsX0_count := goodIn_r _ [45, 46, 47, 48, 49, 43, 50, 51, 66, 67] (by decide +kernel) (by decide +kernel)
set_option maxRecDepth 20000 in
theorem gX1_worlds_X0_count_n89 : GoodIn wsX1_worlds (wsX0_count) := ggX1_worlds_X0_count
theorem dX1_worlds_0 : decode cX1_worlds 0 = .ok (.aload_n 0, 1) := by decide +kernel
theorem dX1_worlds_1 : decode cX1_worlds 1 = .ok (.invokevirtual 92, 3) := by decide +kernel
theorem dX1_worlds_4 : decode cX1_worlds 4 = .ok (.aload_n 0, 1) := by decide +kernel
theorem dX1_worlds_5 : decode cX1_worlds 5 = .ok (.iload_n 1, 1) := by decide +kernel
theorem dX1_worlds_6 : decode cX1_worlds 6 = .ok (.invokevirtual 145, 3) := by decide +kernel
theorem dX1_worlds_9 : decode cX1_worlds 9 = .ok (.aload_n 0, 1) := by decide +kernel
theorem dX1_worlds_10 : decode cX1_worlds 10 = .ok (.getfield 12, 3) := by decide +kernel
theorem dX1_worlds_13 : decode cX1_worlds 13 = .ok (.aload_n 0, 1) := by decide +kernel
theorem dX1_worlds_14 : decode cX1_worlds 14 = .ok (.iload_n 1, 1) := by decide +kernel
theorem dX1_worlds_15 : decode cX1_worlds 15 = .ok (.invokevirtual 86, 3) := by decide +kernel
theorem dX1_worlds_18 : decode cX1_worlds 18 = .ok (.invokevirtual 89, 3) := by decide +kernel
theorem dX1_worlds_21 : decode cX1_worlds 21 = .ok (.ireturn, 1) := by decide +kernel
set_option maxRecDepth 20000 in
theorem ggX1_worldsWith_X1_requireGame : GoodIn wsX1_worldsWith wsX1_requireGame := goodIn_ca (goodIn_r _ [8, 9, 10, 11, 56, 57, 58, 59, 60, 61, 62, 63, 64, 65, 66, 67, 68, 69] (by decide +kernel) (by decide +kernel)) (goodIn_sub (fun _ h => List.mem_cons_of_mem _ (List.mem_append_left _ (List.mem_append_right _ h))) (by decide +kernel))
set_option maxRecDepth 20000 in
theorem gX1_worldsWith_X1_requireGame : GoodIn wsX1_worldsWith (wsV RX1 92 RX1 yX1_requireGame wsX1_requireGame) := goodIn_app (goodIn_of _ (by decide +kernel)) ggX1_worldsWith_X1_requireGame
set_option maxRecDepth 20000 in
theorem ggX1_worldsWith_X1_requireViewer : GoodIn wsX1_worldsWith wsX1_requireViewer := goodIn_ca (goodIn_r _ [15, 16, 17, 18, 7, 19, 20, 21, 22, 56, 57, 58, 59, 60, 61, 62, 63, 64, 65, 66, 67, 68, 69] (by decide +kernel) (by decide +kernel)) (goodIn_sub (fun _ h => List.mem_cons_of_mem _ (List.mem_append_right _ h)) (by decide +kernel))
set_option maxRecDepth 20000 in
theorem gX1_worldsWith_X1_requireViewer : GoodIn wsX1_worldsWith (wsV RX1 145 RX1 yX1_requireViewer wsX1_requireViewer) := goodIn_app (goodIn_of _ (by decide +kernel)) ggX1_worldsWith_X1_requireViewer
set_option maxRecDepth 20000 in
theorem ggX1_worldsWith_X1_requirePlayer : GoodIn wsX1_worldsWith wsX1_requirePlayer := goodIn_ca (goodIn_r _ [19, 20, 21, 22, 56, 57, 58, 59, 60, 61, 62, 63, 64, 65, 66, 67, 68, 69] (by decide +kernel) (by decide +kernel)) (goodIn_sub (fun _ h => List.mem_cons_of_mem _ (List.mem_append_right _ h)) (by decide +kernel))
set_option maxRecDepth 20000 in
theorem gX1_worldsWith_X1_requirePlayer : GoodIn wsX1_worldsWith (wsV RX1 95 RX1 yX1_requirePlayer wsX1_requirePlayer) := goodIn_app (goodIn_of _ (by decide +kernel)) ggX1_worldsWith_X1_requirePlayer
set_option maxRecDepth 20000 in
theorem ggX1_worldsWith_X1_knownBits : GoodIn wsX1_worldsWith wsX1_knownBits := goodIn_r _ [26, 22, 27, 28, 29, 30, 31, 7, 32, 33, 34, 35, 36, 37, 38, 39, 40, 41, 42, 43, 56, 57, 58, 59, 60, 61, 62, 63, 64, 65, 66, 67, 68, 69] (by decide +kernel) (by decide +kernel)
set_option maxRecDepth 20000 in
theorem gX1_worldsWith_X1_knownBits : GoodIn wsX1_worldsWith (wsV RX1 86 RX1 yX1_knownBits wsX1_knownBits) := goodIn_app (goodIn_of _ (by decide +kernel)) ggX1_worldsWith_X1_knownBits
set_option maxRecDepth 20000 in
theorem ggX1_worldsWith_X0_countWithRole : GoodIn wsX1_worldsWith wsX0_countWithRole := goodIn_r _ [47, 48, 37, 7, 38, 34, 35, 49, 50, 36, 51, 52, 53, 45, 54, 55, 70, 71] (by decide +kernel) (by decide +kernel)
set_option maxRecDepth 20000 in
theorem gX1_worldsWith_X0_countWithRole_n150 : GoodIn wsX1_worldsWith (wsX0_countWithRole) := ggX1_worldsWith_X0_countWithRole
theorem dX1_worldsWith_0 : decode cX1_worldsWith 0 = .ok (.aload_n 0, 1) := by decide +kernel
theorem dX1_worldsWith_1 : decode cX1_worldsWith 1 = .ok (.invokevirtual 92, 3) := by decide +kernel
theorem dX1_worldsWith_4 : decode cX1_worldsWith 4 = .ok (.aload_n 0, 1) := by decide +kernel
theorem dX1_worldsWith_5 : decode cX1_worldsWith 5 = .ok (.iload_n 1, 1) := by decide +kernel
theorem dX1_worldsWith_6 : decode cX1_worldsWith 6 = .ok (.invokevirtual 145, 3) := by decide +kernel
theorem dX1_worldsWith_9 : decode cX1_worldsWith 9 = .ok (.aload_n 0, 1) := by decide +kernel
theorem dX1_worldsWith_10 : decode cX1_worldsWith 10 = .ok (.iload_n 2, 1) := by decide +kernel
theorem dX1_worldsWith_11 : decode cX1_worldsWith 11 = .ok (.invokevirtual 95, 3) := by decide +kernel
theorem dX1_worldsWith_14 : decode cX1_worldsWith 14 = .ok (.iload_n 3, 1) := by decide +kernel
theorem dX1_worldsWith_15 : decode cX1_worldsWith 15 = .ok (.ifCond .lt 8, 3) := by decide +kernel
theorem dX1_worldsWith_18 : decode cX1_worldsWith 18 = .ok (.iload_n 3, 1) := by decide +kernel
theorem dX1_worldsWith_19 : decode cX1_worldsWith 19 = .ok (.iconst 3, 1) := by decide +kernel
theorem dX1_worldsWith_20 : decode cX1_worldsWith 20 = .ok (.if_icmp .le 13, 3) := by decide +kernel
theorem dX1_worldsWith_23 : decode cX1_worldsWith 23 = .ok (.new 40, 3) := by decide +kernel
theorem dX1_worldsWith_26 : decode cX1_worldsWith 26 = .ok (.dup, 1) := by decide +kernel
theorem dX1_worldsWith_27 : decode cX1_worldsWith 27 = .ok (.ldc 148, 2) := by decide +kernel
theorem dX1_worldsWith_29 : decode cX1_worldsWith 29 = .ok (.invokespecial 44, 3) := by decide +kernel
theorem dX1_worldsWith_32 : decode cX1_worldsWith 32 = .ok (.athrow, 1) := by decide +kernel
theorem dX1_worldsWith_33 : decode cX1_worldsWith 33 = .ok (.aload_n 0, 1) := by decide +kernel
theorem dX1_worldsWith_34 : decode cX1_worldsWith 34 = .ok (.getfield 12, 3) := by decide +kernel
theorem dX1_worldsWith_37 : decode cX1_worldsWith 37 = .ok (.aload_n 0, 1) := by decide +kernel
theorem dX1_worldsWith_38 : decode cX1_worldsWith 38 = .ok (.iload_n 1, 1) := by decide +kernel
theorem dX1_worldsWith_39 : decode cX1_worldsWith 39 = .ok (.invokevirtual 86, 3) := by decide +kernel
theorem dX1_worldsWith_42 : decode cX1_worldsWith 42 = .ok (.iload_n 2, 1) := by decide +kernel
theorem dX1_worldsWith_43 : decode cX1_worldsWith 43 = .ok (.iload_n 3, 1) := by decide +kernel
theorem dX1_worldsWith_44 : decode cX1_worldsWith 44 = .ok (.invokevirtual 150, 3) := by decide +kernel
theorem dX1_worldsWith_47 : decode cX1_worldsWith 47 = .ok (.ireturn, 1) := by decide +kernel
set_option maxRecDepth 20000 in
theorem ggX1_sureWitches_X1_requireGame : GoodIn wsX1_sureWitches wsX1_requireGame := goodIn_ca (goodIn_r _ [6, 7, 8, 9, 54, 55, 56, 57, 58, 59, 60, 61, 62, 63, 64, 65, 66, 67] (by decide +kernel) (by decide +kernel)) (goodIn_sub (fun _ h => List.mem_cons_of_mem _ (List.mem_append_left _ (List.mem_append_right _ h))) (by decide +kernel))
set_option maxRecDepth 20000 in
theorem gX1_sureWitches_X1_requireGame : GoodIn wsX1_sureWitches (wsV RX1 92 RX1 yX1_requireGame wsX1_requireGame) := goodIn_app (goodIn_of _ (by decide +kernel)) ggX1_sureWitches_X1_requireGame
set_option maxRecDepth 20000 in
theorem ggX1_sureWitches_X1_requireViewer : GoodIn wsX1_sureWitches wsX1_requireViewer := goodIn_ca (goodIn_r _ [13, 14, 15, 16, 5, 17, 18, 19, 20, 54, 55, 56, 57, 58, 59, 60, 61, 62, 63, 64, 65, 66, 67] (by decide +kernel) (by decide +kernel)) (goodIn_sub (fun _ h => List.mem_cons_of_mem _ (List.mem_append_right _ h)) (by decide +kernel))
set_option maxRecDepth 20000 in
theorem gX1_sureWitches_X1_requireViewer : GoodIn wsX1_sureWitches (wsV RX1 145 RX1 yX1_requireViewer wsX1_requireViewer) := goodIn_app (goodIn_of _ (by decide +kernel)) ggX1_sureWitches_X1_requireViewer
set_option maxRecDepth 20000 in
theorem ggX1_sureWitches_X1_knownBits : GoodIn wsX1_sureWitches wsX1_knownBits := goodIn_r _ [24, 20, 25, 26, 27, 28, 29, 5, 30, 31, 32, 33, 34, 35, 36, 37, 38, 39, 40, 41, 54, 55, 56, 57, 58, 59, 60, 61, 62, 63, 64, 65, 66, 67] (by decide +kernel) (by decide +kernel)
set_option maxRecDepth 20000 in
theorem gX1_sureWitches_X1_knownBits : GoodIn wsX1_sureWitches (wsV RX1 86 RX1 yX1_knownBits wsX1_knownBits) := goodIn_app (goodIn_of _ (by decide +kernel)) ggX1_sureWitches_X1_knownBits
set_option maxRecDepth 20000 in
theorem ggX1_sureWitches_X0_witchesInAll : GoodIn wsX1_sureWitches wsX0_witchesInAll := goodIn_r _ [45, 46, 47, 48, 49, 43, 50, 51, 52, 5, 53, 68, 69] (by decide +kernel) (by decide +kernel)
set_option maxRecDepth 20000 in
theorem gX1_sureWitches_X0_witchesInAll_n153 : GoodIn wsX1_sureWitches (wsX0_witchesInAll) := ggX1_sureWitches_X0_witchesInAll
theorem dX1_sureWitches_0 : decode cX1_sureWitches 0 = .ok (.aload_n 0, 1) := by decide +kernel
theorem dX1_sureWitches_1 : decode cX1_sureWitches 1 = .ok (.invokevirtual 92, 3) := by decide +kernel
theorem dX1_sureWitches_4 : decode cX1_sureWitches 4 = .ok (.aload_n 0, 1) := by decide +kernel
theorem dX1_sureWitches_5 : decode cX1_sureWitches 5 = .ok (.iload_n 1, 1) := by decide +kernel
theorem dX1_sureWitches_6 : decode cX1_sureWitches 6 = .ok (.invokevirtual 145, 3) := by decide +kernel
theorem dX1_sureWitches_9 : decode cX1_sureWitches 9 = .ok (.aload_n 0, 1) := by decide +kernel
theorem dX1_sureWitches_10 : decode cX1_sureWitches 10 = .ok (.getfield 12, 3) := by decide +kernel
theorem dX1_sureWitches_13 : decode cX1_sureWitches 13 = .ok (.aload_n 0, 1) := by decide +kernel
theorem dX1_sureWitches_14 : decode cX1_sureWitches 14 = .ok (.iload_n 1, 1) := by decide +kernel
theorem dX1_sureWitches_15 : decode cX1_sureWitches 15 = .ok (.invokevirtual 86, 3) := by decide +kernel
theorem dX1_sureWitches_18 : decode cX1_sureWitches 18 = .ok (.invokevirtual 153, 3) := by decide +kernel
theorem dX1_sureWitches_21 : decode cX1_sureWitches 21 = .ok (.ireturn, 1) := by decide +kernel
set_option maxRecDepth 20000 in
theorem ggX1_sureHonest_X1_requireGame : GoodIn wsX1_sureHonest wsX1_requireGame := goodIn_ca (goodIn_r _ [7, 8, 9, 10, 54, 55, 56, 57, 58, 59, 60, 61, 62, 63, 64, 65, 66, 67] (by decide +kernel) (by decide +kernel)) (goodIn_sub (fun _ h => List.mem_cons_of_mem _ (List.mem_append_left _ (List.mem_append_right _ h))) (by decide +kernel))
set_option maxRecDepth 20000 in
theorem gX1_sureHonest_X1_requireGame : GoodIn wsX1_sureHonest (wsV RX1 92 RX1 yX1_requireGame wsX1_requireGame) := goodIn_app (goodIn_of _ (by decide +kernel)) ggX1_sureHonest_X1_requireGame
set_option maxRecDepth 20000 in
theorem ggX1_sureHonest_X1_requireViewer : GoodIn wsX1_sureHonest wsX1_requireViewer := goodIn_ca (goodIn_r _ [14, 15, 16, 17, 6, 18, 19, 20, 1, 54, 55, 56, 57, 58, 59, 60, 61, 62, 63, 64, 65, 66, 67] (by decide +kernel) (by decide +kernel)) (goodIn_sub (fun _ h => List.mem_cons_of_mem _ (List.mem_append_right _ h)) (by decide +kernel))
set_option maxRecDepth 20000 in
theorem gX1_sureHonest_X1_requireViewer : GoodIn wsX1_sureHonest (wsV RX1 145 RX1 yX1_requireViewer wsX1_requireViewer) := goodIn_app (goodIn_of _ (by decide +kernel)) ggX1_sureHonest_X1_requireViewer
set_option maxRecDepth 20000 in
theorem ggX1_sureHonest_X1_everyone : GoodIn wsX1_sureHonest wsX1_everyone := goodIn_r _ [23] (by decide +kernel) (by decide +kernel)
set_option maxRecDepth 20000 in
theorem gX1_sureHonest_X1_everyone : GoodIn wsX1_sureHonest (va_wsS RX1 59 yX1_everyone wsX1_everyone) := goodIn_app (goodIn_of _ (by decide +kernel)) ggX1_sureHonest_X1_everyone
set_option maxRecDepth 20000 in
theorem ggX1_sureHonest_X1_knownBits : GoodIn wsX1_sureHonest wsX1_knownBits := goodIn_r _ [27, 1, 28, 29, 30, 21, 22, 6, 23, 31, 32, 33, 34, 35, 36, 37, 38, 39, 40, 41, 54, 55, 56, 57, 58, 59, 60, 61, 62, 63, 64, 65, 66, 67] (by decide +kernel) (by decide +kernel)
set_option maxRecDepth 20000 in
theorem gX1_sureHonest_X1_knownBits : GoodIn wsX1_sureHonest (wsV RX1 86 RX1 yX1_knownBits wsX1_knownBits) := goodIn_app (goodIn_of _ (by decide +kernel)) ggX1_sureHonest_X1_knownBits
set_option maxRecDepth 20000 in
theorem ggX1_sureHonest_X0_witchesInAny : GoodIn wsX1_sureHonest wsX0_witchesInAny := goodIn_r _ [45, 46, 47, 48, 49, 43, 50, 51, 52, 6, 53, 68, 69] (by decide +kernel) (by decide +kernel)
set_option maxRecDepth 20000 in
theorem gX1_sureHonest_X0_witchesInAny_n156 : GoodIn wsX1_sureHonest (wsX0_witchesInAny) := ggX1_sureHonest_X0_witchesInAny
theorem dX1_sureHonest_0 : decode cX1_sureHonest 0 = .ok (.aload_n 0, 1) := by decide +kernel
theorem dX1_sureHonest_1 : decode cX1_sureHonest 1 = .ok (.invokevirtual 92, 3) := by decide +kernel
theorem dX1_sureHonest_4 : decode cX1_sureHonest 4 = .ok (.aload_n 0, 1) := by decide +kernel
theorem dX1_sureHonest_5 : decode cX1_sureHonest 5 = .ok (.iload_n 1, 1) := by decide +kernel
theorem dX1_sureHonest_6 : decode cX1_sureHonest 6 = .ok (.invokevirtual 145, 3) := by decide +kernel
theorem dX1_sureHonest_9 : decode cX1_sureHonest 9 = .ok (.aload_n 0, 1) := by decide +kernel
theorem dX1_sureHonest_10 : decode cX1_sureHonest 10 = .ok (.getfield 47, 3) := by decide +kernel
theorem dX1_sureHonest_13 : decode cX1_sureHonest 13 = .ok (.invokestatic 59, 3) := by decide +kernel
theorem dX1_sureHonest_16 : decode cX1_sureHonest 16 = .ok (.aload_n 0, 1) := by decide +kernel
theorem dX1_sureHonest_17 : decode cX1_sureHonest 17 = .ok (.getfield 12, 3) := by decide +kernel
theorem dX1_sureHonest_20 : decode cX1_sureHonest 20 = .ok (.aload_n 0, 1) := by decide +kernel
theorem dX1_sureHonest_21 : decode cX1_sureHonest 21 = .ok (.iload_n 1, 1) := by decide +kernel
theorem dX1_sureHonest_22 : decode cX1_sureHonest 22 = .ok (.invokevirtual 86, 3) := by decide +kernel
theorem dX1_sureHonest_25 : decode cX1_sureHonest 25 = .ok (.invokevirtual 156, 3) := by decide +kernel
theorem dX1_sureHonest_28 : decode cX1_sureHonest 28 = .ok (.iconst (-1), 1) := by decide +kernel
theorem dX1_sureHonest_29 : decode cX1_sureHonest 29 = .ok (.ixor, 1) := by decide +kernel
theorem dX1_sureHonest_30 : decode cX1_sureHonest 30 = .ok (.iand, 1) := by decide +kernel
theorem dX1_sureHonest_31 : decode cX1_sureHonest 31 = .ok (.ireturn, 1) := by decide +kernel
set_option maxRecDepth 20000 in
theorem ggX1_witchSets_X1_requireGame : GoodIn wsX1_witchSets wsX1_requireGame := goodIn_ca (goodIn_r _ [6, 7, 8, 9, 54, 55, 56, 57, 58, 59, 60, 61, 62, 63, 64, 65, 66, 67] (by decide +kernel) (by decide +kernel)) (goodIn_sub (fun _ h => List.mem_cons_of_mem _ (List.mem_append_left _ (List.mem_append_right _ h))) (by decide +kernel))
set_option maxRecDepth 20000 in
theorem gX1_witchSets_X1_requireGame : GoodIn wsX1_witchSets (wsV RX1 92 RX1 yX1_requireGame wsX1_requireGame) := goodIn_app (goodIn_of _ (by decide +kernel)) ggX1_witchSets_X1_requireGame
set_option maxRecDepth 20000 in
theorem ggX1_witchSets_X1_requireViewer : GoodIn wsX1_witchSets wsX1_requireViewer := goodIn_ca (goodIn_r _ [13, 14, 15, 16, 5, 17, 18, 19, 20, 54, 55, 56, 57, 58, 59, 60, 61, 62, 63, 64, 65, 66, 67] (by decide +kernel) (by decide +kernel)) (goodIn_sub (fun _ h => List.mem_cons_of_mem _ (List.mem_append_right _ h)) (by decide +kernel))
set_option maxRecDepth 20000 in
theorem gX1_witchSets_X1_requireViewer : GoodIn wsX1_witchSets (wsV RX1 145 RX1 yX1_requireViewer wsX1_requireViewer) := goodIn_app (goodIn_of _ (by decide +kernel)) ggX1_witchSets_X1_requireViewer
set_option maxRecDepth 20000 in
theorem ggX1_witchSets_X1_knownBits : GoodIn wsX1_witchSets wsX1_knownBits := goodIn_r _ [24, 20, 25, 26, 27, 28, 29, 5, 30, 31, 32, 33, 34, 35, 36, 37, 38, 39, 40, 41, 54, 55, 56, 57, 58, 59, 60, 61, 62, 63, 64, 65, 66, 67] (by decide +kernel) (by decide +kernel)
set_option maxRecDepth 20000 in
theorem gX1_witchSets_X1_knownBits : GoodIn wsX1_witchSets (wsV RX1 86 RX1 yX1_knownBits wsX1_knownBits) := goodIn_app (goodIn_of _ (by decide +kernel)) ggX1_witchSets_X1_knownBits
set_option maxRecDepth 20000 in
theorem ggX1_witchSets_X0_countWitchSets : GoodIn wsX1_witchSets wsX0_countWitchSets := goodIn_r _ [45, 46, 47, 48, 49, 43, 50, 51, 52, 5, 53, 68, 69] (by decide +kernel) (by decide +kernel)
set_option maxRecDepth 20000 in
theorem gX1_witchSets_X0_countWitchSets_n159 : GoodIn wsX1_witchSets (wsX0_countWitchSets) := ggX1_witchSets_X0_countWitchSets
theorem dX1_witchSets_0 : decode cX1_witchSets 0 = .ok (.aload_n 0, 1) := by decide +kernel
theorem dX1_witchSets_1 : decode cX1_witchSets 1 = .ok (.invokevirtual 92, 3) := by decide +kernel
theorem dX1_witchSets_4 : decode cX1_witchSets 4 = .ok (.aload_n 0, 1) := by decide +kernel
theorem dX1_witchSets_5 : decode cX1_witchSets 5 = .ok (.iload_n 1, 1) := by decide +kernel
theorem dX1_witchSets_6 : decode cX1_witchSets 6 = .ok (.invokevirtual 145, 3) := by decide +kernel
theorem dX1_witchSets_9 : decode cX1_witchSets 9 = .ok (.aload_n 0, 1) := by decide +kernel
theorem dX1_witchSets_10 : decode cX1_witchSets 10 = .ok (.getfield 12, 3) := by decide +kernel
theorem dX1_witchSets_13 : decode cX1_witchSets 13 = .ok (.aload_n 0, 1) := by decide +kernel
theorem dX1_witchSets_14 : decode cX1_witchSets 14 = .ok (.iload_n 1, 1) := by decide +kernel
theorem dX1_witchSets_15 : decode cX1_witchSets 15 = .ok (.invokevirtual 86, 3) := by decide +kernel
theorem dX1_witchSets_18 : decode cX1_witchSets 18 = .ok (.invokevirtual 159, 3) := by decide +kernel
theorem dX1_witchSets_21 : decode cX1_witchSets 21 = .ok (.ireturn, 1) := by decide +kernel
set_option maxRecDepth 20000 in
theorem ggX1_suspect_X1_requireGame : GoodIn wsX1_suspect wsX1_requireGame := goodIn_ca (goodIn_r _ [7, 8, 9, 10, 58, 59, 60, 61, 62, 63, 64, 65, 66, 67, 68, 69, 70, 71] (by decide +kernel) (by decide +kernel)) (goodIn_sub (fun _ h => List.mem_cons_of_mem _ (List.mem_append_left _ (List.mem_append_right _ h))) (by decide +kernel))
set_option maxRecDepth 20000 in
theorem gX1_suspect_X1_requireGame : GoodIn wsX1_suspect (wsV RX1 92 RX1 yX1_requireGame wsX1_requireGame) := goodIn_app (goodIn_of _ (by decide +kernel)) ggX1_suspect_X1_requireGame
set_option maxRecDepth 20000 in
theorem ggX1_suspect_X1_requireViewer : GoodIn wsX1_suspect wsX1_requireViewer := goodIn_ca (goodIn_r _ [14, 15, 16, 17, 6, 18, 19, 20, 1, 58, 59, 60, 61, 62, 63, 64, 65, 66, 67, 68, 69, 70, 71] (by decide +kernel) (by decide +kernel)) (goodIn_sub (fun _ h => List.mem_cons_of_mem _ (List.mem_append_right _ h)) (by decide +kernel))
set_option maxRecDepth 20000 in
theorem gX1_suspect_X1_requireViewer : GoodIn wsX1_suspect (wsV RX1 145 RX1 yX1_requireViewer wsX1_requireViewer) := goodIn_app (goodIn_of _ (by decide +kernel)) ggX1_suspect_X1_requireViewer
set_option maxRecDepth 20000 in
theorem ggX1_suspect_X1_knownBits : GoodIn wsX1_suspect wsX1_knownBits := goodIn_r _ [24, 1, 25, 26, 27, 28, 29, 6, 30, 31, 32, 33, 34, 35, 36, 37, 38, 39, 40, 41, 58, 59, 60, 61, 62, 63, 64, 65, 66, 67, 68, 69, 70, 71] (by decide +kernel) (by decide +kernel)
set_option maxRecDepth 20000 in
theorem gX1_suspect_X1_knownBits : GoodIn wsX1_suspect (wsV RX1 86 RX1 yX1_knownBits wsX1_knownBits) := goodIn_app (goodIn_of _ (by decide +kernel)) ggX1_suspect_X1_knownBits
set_option maxRecDepth 20000 in
theorem ggX1_suspect_X1_isAlive : GoodIn wsX1_suspect wsX1_isAlive := goodIn_r _ [45, 25, 34, 35, 6, 36, 58, 59, 60, 61, 62, 63, 64, 65, 66, 67, 68, 69, 70, 71] (by decide +kernel) (by decide +kernel)
set_option maxRecDepth 20000 in
theorem gX1_suspect_X1_isAlive : GoodIn wsX1_suspect (wsV RX1 114 RX1 yX1_isAlive wsX1_isAlive) := goodIn_app (goodIn_of _ (by decide +kernel)) ggX1_suspect_X1_isAlive
set_option maxRecDepth 20000 in
theorem ggX1_suspect_X0_countWithRole : GoodIn wsX1_suspect wsX0_countWithRole := goodIn_r _ [49, 50, 35, 6, 36, 32, 33, 51, 52, 34, 53, 54, 55, 47, 56, 57, 72, 73] (by decide +kernel) (by decide +kernel)
set_option maxRecDepth 20000 in
theorem gX1_suspect_X0_countWithRole_n150 : GoodIn wsX1_suspect (wsX0_countWithRole) := ggX1_suspect_X0_countWithRole
theorem dX1_suspect_0 : decode cX1_suspect 0 = .ok (.aload_n 0, 1) := by decide +kernel
theorem dX1_suspect_1 : decode cX1_suspect 1 = .ok (.invokevirtual 92, 3) := by decide +kernel
theorem dX1_suspect_4 : decode cX1_suspect 4 = .ok (.aload_n 0, 1) := by decide +kernel
theorem dX1_suspect_5 : decode cX1_suspect 5 = .ok (.iload_n 1, 1) := by decide +kernel
theorem dX1_suspect_6 : decode cX1_suspect 6 = .ok (.invokevirtual 145, 3) := by decide +kernel
theorem dX1_suspect_9 : decode cX1_suspect 9 = .ok (.aload_n 0, 1) := by decide +kernel
theorem dX1_suspect_10 : decode cX1_suspect 10 = .ok (.iload_n 1, 1) := by decide +kernel
theorem dX1_suspect_11 : decode cX1_suspect 11 = .ok (.invokevirtual 86, 3) := by decide +kernel
theorem dX1_suspect_14 : decode cX1_suspect 14 = .ok (.istore_n 2, 1) := by decide +kernel
theorem dX1_suspect_15 : decode cX1_suspect 15 = .ok (.iconst (-1), 1) := by decide +kernel
theorem dX1_suspect_16 : decode cX1_suspect 16 = .ok (.istore_n 3, 1) := by decide +kernel
theorem dX1_suspect_17 : decode cX1_suspect 17 = .ok (.iconst (-1), 1) := by decide +kernel
theorem dX1_suspect_18 : decode cX1_suspect 18 = .ok (.istore 4, 2) := by decide +kernel
theorem dX1_suspect_20 : decode cX1_suspect 20 = .ok (.iconst 0, 1) := by decide +kernel
theorem dX1_suspect_21 : decode cX1_suspect 21 = .ok (.istore 5, 2) := by decide +kernel
theorem dX1_suspect_23 : decode cX1_suspect 23 = .ok (.iload 5, 2) := by decide +kernel
theorem dX1_suspect_25 : decode cX1_suspect 25 = .ok (.aload_n 0, 1) := by decide +kernel
theorem dX1_suspect_26 : decode cX1_suspect 26 = .ok (.getfield 47, 3) := by decide +kernel
theorem dX1_suspect_29 : decode cX1_suspect 29 = .ok (.if_icmp .ge 51, 3) := by decide +kernel
theorem dX1_suspect_32 : decode cX1_suspect 32 = .ok (.aload_n 0, 1) := by decide +kernel
theorem dX1_suspect_33 : decode cX1_suspect 33 = .ok (.iload 5, 2) := by decide +kernel
theorem dX1_suspect_35 : decode cX1_suspect 35 = .ok (.invokevirtual 114, 3) := by decide +kernel
theorem dX1_suspect_38 : decode cX1_suspect 38 = .ok (.ifCond .eq 36, 3) := by decide +kernel
theorem dX1_suspect_41 : decode cX1_suspect 41 = .ok (.iload 5, 2) := by decide +kernel
theorem dX1_suspect_43 : decode cX1_suspect 43 = .ok (.iload_n 1, 1) := by decide +kernel
theorem dX1_suspect_44 : decode cX1_suspect 44 = .ok (.if_icmp .eq 30, 3) := by decide +kernel
theorem dX1_suspect_47 : decode cX1_suspect 47 = .ok (.aload_n 0, 1) := by decide +kernel
theorem dX1_suspect_48 : decode cX1_suspect 48 = .ok (.getfield 12, 3) := by decide +kernel
theorem dX1_suspect_51 : decode cX1_suspect 51 = .ok (.iload_n 2, 1) := by decide +kernel
theorem dX1_suspect_52 : decode cX1_suspect 52 = .ok (.iload 5, 2) := by decide +kernel
theorem dX1_suspect_54 : decode cX1_suspect 54 = .ok (.iconst 1, 1) := by decide +kernel
theorem dX1_suspect_55 : decode cX1_suspect 55 = .ok (.invokevirtual 150, 3) := by decide +kernel
theorem dX1_suspect_58 : decode cX1_suspect 58 = .ok (.istore 6, 2) := by decide +kernel
theorem dX1_suspect_60 : decode cX1_suspect 60 = .ok (.iload 6, 2) := by decide +kernel
theorem dX1_suspect_62 : decode cX1_suspect 62 = .ok (.iload 4, 2) := by decide +kernel
theorem dX1_suspect_64 : decode cX1_suspect 64 = .ok (.if_icmp .le 10, 3) := by decide +kernel
theorem dX1_suspect_67 : decode cX1_suspect 67 = .ok (.iload 6, 2) := by decide +kernel
theorem dX1_suspect_69 : decode cX1_suspect 69 = .ok (.istore 4, 2) := by decide +kernel
theorem dX1_suspect_71 : decode cX1_suspect 71 = .ok (.iload 5, 2) := by decide +kernel
theorem dX1_suspect_73 : decode cX1_suspect 73 = .ok (.istore_n 3, 1) := by decide +kernel
theorem dX1_suspect_74 : decode cX1_suspect 74 = .ok (.iinc 5 1, 3) := by decide +kernel
theorem dX1_suspect_77 : decode cX1_suspect 77 = .ok (.goto (-54), 3) := by decide +kernel
theorem dX1_suspect_80 : decode cX1_suspect 80 = .ok (.iload_n 3, 1) := by decide +kernel
theorem dX1_suspect_81 : decode cX1_suspect 81 = .ok (.ireturn, 1) := by decide +kernel
set_option maxRecDepth 20000 in
theorem ggX1_bestLook_X1_requireGame : GoodIn wsX1_bestLook wsX1_requireGame := goodIn_ca (goodIn_r _ [12, 13, 14, 15, 55, 56, 57, 58, 59, 60, 61, 62, 63, 64, 65, 66, 67, 68] (by decide +kernel) (by decide +kernel)) (goodIn_sub (fun _ h => List.mem_cons_of_mem _ (List.mem_append_right _ h)) (by decide +kernel))
set_option maxRecDepth 20000 in
theorem gX1_bestLook_X1_requireGame : GoodIn wsX1_bestLook (wsV RX1 92 RX1 yX1_requireGame wsX1_requireGame) := goodIn_app (goodIn_of _ (by decide +kernel)) ggX1_bestLook_X1_requireGame
set_option maxRecDepth 20000 in
theorem ggX1_bestLook_X1_knownBits : GoodIn wsX1_bestLook wsX1_knownBits := goodIn_r _ [19, 3, 20, 1, 21, 22, 23, 11, 24, 25, 26, 27, 28, 29, 30, 31, 32, 33, 34, 35, 55, 56, 57, 58, 59, 60, 61, 62, 63, 64, 65, 66, 67, 68] (by decide +kernel) (by decide +kernel)
set_option maxRecDepth 20000 in
theorem gX1_bestLook_X1_knownBits : GoodIn wsX1_bestLook (wsV RX1 86 RX1 yX1_knownBits wsX1_knownBits) := goodIn_app (goodIn_of _ (by decide +kernel)) ggX1_bestLook_X1_knownBits
set_option maxRecDepth 20000 in
theorem ggX1_bestLook_X0_count : GoodIn wsX1_bestLook wsX0_count := goodIn_r _ [39, 40, 41, 42, 43, 37, 44, 45, 69, 70] (by decide +kernel) (by decide +kernel)
set_option maxRecDepth 20000 in
theorem gX1_bestLook_X0_count_n89 : GoodIn wsX1_bestLook (wsX0_count) := ggX1_bestLook_X0_count
set_option maxRecDepth 20000 in
theorem ggX1_bestLook_X1_isAlive : GoodIn wsX1_bestLook wsX1_isAlive := goodIn_r _ [49, 20, 28, 29, 11, 30, 55, 56, 57, 58, 59, 60, 61, 62, 63, 64, 65, 66, 67, 68] (by decide +kernel) (by decide +kernel)
set_option maxRecDepth 20000 in
theorem gX1_bestLook_X1_isAlive : GoodIn wsX1_bestLook (wsV RX1 114 RX1 yX1_isAlive wsX1_isAlive) := goodIn_app (goodIn_of _ (by decide +kernel)) ggX1_bestLook_X1_isAlive
set_option maxRecDepth 20000 in
theorem ggX1_bestLook_X0_countWithRole : GoodIn wsX1_bestLook wsX0_countWithRole := goodIn_r _ [52, 40, 29, 11, 30, 26, 27, 53, 54, 28, 41, 42, 43, 37, 44, 45, 69, 70] (by decide +kernel) (by decide +kernel)
set_option maxRecDepth 20000 in
theorem gX1_bestLook_X0_countWithRole_n150 : GoodIn wsX1_bestLook (wsX0_countWithRole) := ggX1_bestLook_X0_countWithRole
theorem dX1_bestLook_0 : decode cX1_bestLook 0 = .ok (.aload_n 0, 1) := by decide +kernel
theorem dX1_bestLook_1 : decode cX1_bestLook 1 = .ok (.invokevirtual 92, 3) := by decide +kernel
theorem dX1_bestLook_4 : decode cX1_bestLook 4 = .ok (.aload_n 0, 1) := by decide +kernel
theorem dX1_bestLook_5 : decode cX1_bestLook 5 = .ok (.aload_n 0, 1) := by decide +kernel
theorem dX1_bestLook_6 : decode cX1_bestLook 6 = .ok (.getfield 53, 3) := by decide +kernel
theorem dX1_bestLook_9 : decode cX1_bestLook 9 = .ok (.invokevirtual 86, 3) := by decide +kernel
theorem dX1_bestLook_12 : decode cX1_bestLook 12 = .ok (.istore_n 1, 1) := by decide +kernel
theorem dX1_bestLook_13 : decode cX1_bestLook 13 = .ok (.aload_n 0, 1) := by decide +kernel
theorem dX1_bestLook_14 : decode cX1_bestLook 14 = .ok (.getfield 12, 3) := by decide +kernel
theorem dX1_bestLook_17 : decode cX1_bestLook 17 = .ok (.iload_n 1, 1) := by decide +kernel
theorem dX1_bestLook_18 : decode cX1_bestLook 18 = .ok (.invokevirtual 89, 3) := by decide +kernel
theorem dX1_bestLook_21 : decode cX1_bestLook 21 = .ok (.istore_n 2, 1) := by decide +kernel
theorem dX1_bestLook_22 : decode cX1_bestLook 22 = .ok (.iconst (-1), 1) := by decide +kernel
theorem dX1_bestLook_23 : decode cX1_bestLook 23 = .ok (.istore_n 3, 1) := by decide +kernel
theorem dX1_bestLook_24 : decode cX1_bestLook 24 = .ok (.iload_n 2, 1) := by decide +kernel
theorem dX1_bestLook_25 : decode cX1_bestLook 25 = .ok (.iconst 1, 1) := by decide +kernel
theorem dX1_bestLook_26 : decode cX1_bestLook 26 = .ok (.iadd, 1) := by decide +kernel
theorem dX1_bestLook_27 : decode cX1_bestLook 27 = .ok (.istore 4, 2) := by decide +kernel
theorem dX1_bestLook_29 : decode cX1_bestLook 29 = .ok (.iconst 0, 1) := by decide +kernel
theorem dX1_bestLook_30 : decode cX1_bestLook 30 = .ok (.istore 5, 2) := by decide +kernel
theorem dX1_bestLook_32 : decode cX1_bestLook 32 = .ok (.iload 5, 2) := by decide +kernel
theorem dX1_bestLook_34 : decode cX1_bestLook 34 = .ok (.aload_n 0, 1) := by decide +kernel
theorem dX1_bestLook_35 : decode cX1_bestLook 35 = .ok (.getfield 47, 3) := by decide +kernel
theorem dX1_bestLook_38 : decode cX1_bestLook 38 = .ok (.if_icmp .ge 65, 3) := by decide +kernel
theorem dX1_bestLook_41 : decode cX1_bestLook 41 = .ok (.aload_n 0, 1) := by decide +kernel
theorem dX1_bestLook_42 : decode cX1_bestLook 42 = .ok (.iload 5, 2) := by decide +kernel
theorem dX1_bestLook_44 : decode cX1_bestLook 44 = .ok (.invokevirtual 114, 3) := by decide +kernel
theorem dX1_bestLook_47 : decode cX1_bestLook 47 = .ok (.ifCond .eq 50, 3) := by decide +kernel
theorem dX1_bestLook_50 : decode cX1_bestLook 50 = .ok (.iload 5, 2) := by decide +kernel
theorem dX1_bestLook_52 : decode cX1_bestLook 52 = .ok (.aload_n 0, 1) := by decide +kernel
theorem dX1_bestLook_53 : decode cX1_bestLook 53 = .ok (.getfield 53, 3) := by decide +kernel
theorem dX1_bestLook_56 : decode cX1_bestLook 56 = .ok (.if_icmp .eq 41, 3) := by decide +kernel
theorem dX1_bestLook_59 : decode cX1_bestLook 59 = .ok (.aload_n 0, 1) := by decide +kernel
theorem dX1_bestLook_60 : decode cX1_bestLook 60 = .ok (.getfield 12, 3) := by decide +kernel
theorem dX1_bestLook_63 : decode cX1_bestLook 63 = .ok (.iload_n 1, 1) := by decide +kernel
theorem dX1_bestLook_64 : decode cX1_bestLook 64 = .ok (.iload 5, 2) := by decide +kernel
theorem dX1_bestLook_66 : decode cX1_bestLook 66 = .ok (.iconst 1, 1) := by decide +kernel
theorem dX1_bestLook_67 : decode cX1_bestLook 67 = .ok (.invokevirtual 150, 3) := by decide +kernel
theorem dX1_bestLook_70 : decode cX1_bestLook 70 = .ok (.istore 6, 2) := by decide +kernel
theorem dX1_bestLook_72 : decode cX1_bestLook 72 = .ok (.iload 6, 2) := by decide +kernel
theorem dX1_bestLook_74 : decode cX1_bestLook 74 = .ok (.iload_n 2, 1) := by decide +kernel
theorem dX1_bestLook_75 : decode cX1_bestLook 75 = .ok (.iload 6, 2) := by decide +kernel
theorem dX1_bestLook_77 : decode cX1_bestLook 77 = .ok (.isub, 1) := by decide +kernel
theorem dX1_bestLook_78 : decode cX1_bestLook 78 = .ok (.invokestatic 162, 3) := by decide +kernel
theorem dX1_bestLook_81 : decode cX1_bestLook 81 = .ok (.istore 7, 2) := by decide +kernel
theorem dX1_bestLook_83 : decode cX1_bestLook 83 = .ok (.iload 7, 2) := by decide +kernel
theorem dX1_bestLook_85 : decode cX1_bestLook 85 = .ok (.iload 4, 2) := by decide +kernel
theorem dX1_bestLook_87 : decode cX1_bestLook 87 = .ok (.if_icmp .ge 10, 3) := by decide +kernel
theorem dX1_bestLook_90 : decode cX1_bestLook 90 = .ok (.iload 7, 2) := by decide +kernel
theorem dX1_bestLook_92 : decode cX1_bestLook 92 = .ok (.istore 4, 2) := by decide +kernel
theorem dX1_bestLook_94 : decode cX1_bestLook 94 = .ok (.iload 5, 2) := by decide +kernel
theorem dX1_bestLook_96 : decode cX1_bestLook 96 = .ok (.istore_n 3, 1) := by decide +kernel
theorem dX1_bestLook_97 : decode cX1_bestLook 97 = .ok (.iinc 5 1, 3) := by decide +kernel
theorem dX1_bestLook_100 : decode cX1_bestLook 100 = .ok (.goto (-68), 3) := by decide +kernel
theorem dX1_bestLook_103 : decode cX1_bestLook 103 = .ok (.iload_n 3, 1) := by decide +kernel
theorem dX1_bestLook_104 : decode cX1_bestLook 104 = .ok (.ireturn, 1) := by decide +kernel
set_option maxRecDepth 20000 in
theorem ggX1_isPossible_X1_requireGame : GoodIn wsX1_isPossible wsX1_requireGame := goodIn_ca (goodIn_r _ [6, 7, 8, 9, 55, 56, 57, 58, 59, 60, 61, 62, 63, 64, 65, 66, 67, 68] (by decide +kernel) (by decide +kernel)) (goodIn_sub (fun _ h => List.mem_cons_of_mem _ (List.mem_append_left _ (List.mem_append_right _ h))) (by decide +kernel))
set_option maxRecDepth 20000 in
theorem gX1_isPossible_X1_requireGame : GoodIn wsX1_isPossible (wsV RX1 92 RX1 yX1_requireGame wsX1_requireGame) := goodIn_app (goodIn_of _ (by decide +kernel)) ggX1_isPossible_X1_requireGame
set_option maxRecDepth 20000 in
theorem ggX1_isPossible_X1_requireViewer : GoodIn wsX1_isPossible wsX1_requireViewer := goodIn_ca (goodIn_r _ [13, 14, 15, 16, 5, 17, 18, 19, 20, 55, 56, 57, 58, 59, 60, 61, 62, 63, 64, 65, 66, 67, 68] (by decide +kernel) (by decide +kernel)) (goodIn_sub (fun _ h => List.mem_cons_of_mem _ (List.mem_append_right _ h)) (by decide +kernel))
set_option maxRecDepth 20000 in
theorem gX1_isPossible_X1_requireViewer : GoodIn wsX1_isPossible (wsV RX1 145 RX1 yX1_requireViewer wsX1_requireViewer) := goodIn_app (goodIn_of _ (by decide +kernel)) ggX1_isPossible_X1_requireViewer
set_option maxRecDepth 20000 in
theorem ggX1_isPossible_X1_requirePlayer : GoodIn wsX1_isPossible wsX1_requirePlayer := goodIn_ca (goodIn_r _ [17, 18, 19, 20, 55, 56, 57, 58, 59, 60, 61, 62, 63, 64, 65, 66, 67, 68] (by decide +kernel) (by decide +kernel)) (goodIn_sub (fun _ h => List.mem_cons_of_mem _ (List.mem_append_right _ h)) (by decide +kernel))
set_option maxRecDepth 20000 in
theorem gX1_isPossible_X1_requirePlayer : GoodIn wsX1_isPossible (wsV RX1 95 RX1 yX1_requirePlayer wsX1_requirePlayer) := goodIn_app (goodIn_of _ (by decide +kernel)) ggX1_isPossible_X1_requirePlayer
set_option maxRecDepth 20000 in
theorem ggX1_isPossible_X1_worldOf : GoodIn wsX1_isPossible wsX1_worldOf := goodIn_r _ [23, 24, 25, 5, 26] (by decide +kernel) (by decide +kernel)
set_option maxRecDepth 20000 in
theorem gX1_isPossible_X1_worldOf : GoodIn wsX1_isPossible (va_wsS RX1 78 yX1_worldOf wsX1_worldOf) := goodIn_app (goodIn_of _ (by decide +kernel)) ggX1_isPossible_X1_worldOf
set_option maxRecDepth 20000 in
theorem ggX1_isPossible_X1_knownBits : GoodIn wsX1_isPossible wsX1_knownBits := goodIn_r _ [30, 20, 31, 32, 33, 34, 35, 5, 36, 37, 38, 39, 24, 25, 26, 40, 41, 42, 43, 44, 55, 56, 57, 58, 59, 60, 61, 62, 63, 64, 65, 66, 67, 68] (by decide +kernel) (by decide +kernel)
set_option maxRecDepth 20000 in
theorem gX1_isPossible_X1_knownBits : GoodIn wsX1_isPossible (wsV RX1 86 RX1 yX1_knownBits wsX1_knownBits) := goodIn_app (goodIn_of _ (by decide +kernel)) ggX1_isPossible_X1_knownBits
set_option maxRecDepth 20000 in
theorem ggX1_isPossible_X0_contains : GoodIn wsX1_isPossible wsX0_contains := goodIn_r _ [48, 49, 50, 51, 52, 46, 53, 54, 69, 70] (by decide +kernel) (by decide +kernel)
set_option maxRecDepth 20000 in
theorem gX1_isPossible_X0_contains_n167 : GoodIn wsX1_isPossible (wsX0_contains) := ggX1_isPossible_X0_contains
theorem dX1_isPossible_0 : decode cX1_isPossible 0 = .ok (.aload_n 0, 1) := by decide +kernel
theorem dX1_isPossible_1 : decode cX1_isPossible 1 = .ok (.invokevirtual 92, 3) := by decide +kernel
theorem dX1_isPossible_4 : decode cX1_isPossible 4 = .ok (.aload_n 0, 1) := by decide +kernel
theorem dX1_isPossible_5 : decode cX1_isPossible 5 = .ok (.iload_n 1, 1) := by decide +kernel
theorem dX1_isPossible_6 : decode cX1_isPossible 6 = .ok (.invokevirtual 145, 3) := by decide +kernel
theorem dX1_isPossible_9 : decode cX1_isPossible 9 = .ok (.aload_n 0, 1) := by decide +kernel
theorem dX1_isPossible_10 : decode cX1_isPossible 10 = .ok (.iload_n 3, 1) := by decide +kernel
theorem dX1_isPossible_11 : decode cX1_isPossible 11 = .ok (.invokevirtual 95, 3) := by decide +kernel
theorem dX1_isPossible_14 : decode cX1_isPossible 14 = .ok (.aload_n 0, 1) := by decide +kernel
theorem dX1_isPossible_15 : decode cX1_isPossible 15 = .ok (.iload 4, 2) := by decide +kernel
theorem dX1_isPossible_17 : decode cX1_isPossible 17 = .ok (.invokevirtual 95, 3) := by decide +kernel
theorem dX1_isPossible_20 : decode cX1_isPossible 20 = .ok (.iload_n 2, 1) := by decide +kernel
theorem dX1_isPossible_21 : decode cX1_isPossible 21 = .ok (.sipush (-256), 3) := by decide +kernel
theorem dX1_isPossible_24 : decode cX1_isPossible 24 = .ok (.iand, 1) := by decide +kernel
theorem dX1_isPossible_25 : decode cX1_isPossible 25 = .ok (.ifCond .ne 29, 3) := by decide +kernel
theorem dX1_isPossible_28 : decode cX1_isPossible 28 = .ok (.aload_n 0, 1) := by decide +kernel
theorem dX1_isPossible_29 : decode cX1_isPossible 29 = .ok (.getfield 12, 3) := by decide +kernel
theorem dX1_isPossible_32 : decode cX1_isPossible 32 = .ok (.iload_n 2, 1) := by decide +kernel
theorem dX1_isPossible_33 : decode cX1_isPossible 33 = .ok (.iload_n 3, 1) := by decide +kernel
theorem dX1_isPossible_34 : decode cX1_isPossible 34 = .ok (.iload 4, 2) := by decide +kernel
theorem dX1_isPossible_36 : decode cX1_isPossible 36 = .ok (.invokestatic 78, 3) := by decide +kernel
theorem dX1_isPossible_39 : decode cX1_isPossible 39 = .ok (.aload_n 0, 1) := by decide +kernel
theorem dX1_isPossible_40 : decode cX1_isPossible 40 = .ok (.iload_n 1, 1) := by decide +kernel
theorem dX1_isPossible_41 : decode cX1_isPossible 41 = .ok (.invokevirtual 86, 3) := by decide +kernel
theorem dX1_isPossible_44 : decode cX1_isPossible 44 = .ok (.invokevirtual 167, 3) := by decide +kernel
theorem dX1_isPossible_47 : decode cX1_isPossible 47 = .ok (.ifCond .eq 7, 3) := by decide +kernel
theorem dX1_isPossible_50 : decode cX1_isPossible 50 = .ok (.iconst 1, 1) := by decide +kernel
theorem dX1_isPossible_51 : decode cX1_isPossible 51 = .ok (.goto 4, 3) := by decide +kernel
theorem dX1_isPossible_54 : decode cX1_isPossible 54 = .ok (.iconst 0, 1) := by decide +kernel
theorem dX1_isPossible_55 : decode cX1_isPossible 55 = .ok (.ireturn, 1) := by decide +kernel
theorem dX1_requireGame_0 : decode cX1_requireGame 0 = .ok (.aload_n 0, 1) := by decide +kernel
theorem dX1_requireGame_1 : decode cX1_requireGame 1 = .ok (.getfield 20, 3) := by decide +kernel
theorem dX1_requireGame_4 : decode cX1_requireGame 4 = .ok (.ifCond .ne 13, 3) := by decide +kernel
theorem dX1_requireGame_7 : decode cX1_requireGame 7 = .ok (.new 171, 3) := by decide +kernel
theorem dX1_requireGame_10 : decode cX1_requireGame 10 = .ok (.dup, 1) := by decide +kernel
theorem dX1_requireGame_11 : decode cX1_requireGame 11 = .ok (.ldc 173, 2) := by decide +kernel
theorem dX1_requireGame_13 : decode cX1_requireGame 13 = .ok (.invokespecial 175, 3) := by decide +kernel
theorem dX1_requireGame_16 : decode cX1_requireGame 16 = .ok (.athrow, 1) := by decide +kernel
theorem dX1_requireGame_17 : decode cX1_requireGame 17 = .ok (.return_, 1) := by decide +kernel
theorem dX1_requirePhase_0 : decode cX1_requirePhase 0 = .ok (.aload_n 0, 1) := by decide +kernel
theorem dX1_requirePhase_1 : decode cX1_requirePhase 1 = .ok (.getfield 20, 3) := by decide +kernel
theorem dX1_requirePhase_4 : decode cX1_requirePhase 4 = .ok (.iload_n 1, 1) := by decide +kernel
theorem dX1_requirePhase_5 : decode cX1_requirePhase 5 = .ok (.if_icmp .eq 13, 3) := by decide +kernel
theorem dX1_requirePhase_8 : decode cX1_requirePhase 8 = .ok (.new 171, 3) := by decide +kernel
theorem dX1_requirePhase_11 : decode cX1_requirePhase 11 = .ok (.dup, 1) := by decide +kernel
theorem dX1_requirePhase_12 : decode cX1_requirePhase 12 = .ok (.ldc 176, 2) := by decide +kernel
theorem dX1_requirePhase_14 : decode cX1_requirePhase 14 = .ok (.invokespecial 175, 3) := by decide +kernel
theorem dX1_requirePhase_17 : decode cX1_requirePhase 17 = .ok (.athrow, 1) := by decide +kernel
theorem dX1_requirePhase_18 : decode cX1_requirePhase 18 = .ok (.return_, 1) := by decide +kernel
set_option maxRecDepth 20000 in
theorem ggX1_requireToLive_X1_isAlive : GoodIn wsX1_requireToLive wsX1_isAlive := goodIn_r _ [7, 8, 9, 10, 6, 11, 12, 13, 14, 15, 16, 17, 18, 19, 20, 21, 22, 23, 24, 25] (by decide +kernel) (by decide +kernel)
set_option maxRecDepth 20000 in
theorem gX1_requireToLive_X1_isAlive : GoodIn wsX1_requireToLive (wsV RX1 114 RX1 yX1_isAlive wsX1_isAlive) := goodIn_app (goodIn_of _ (by decide +kernel)) ggX1_requireToLive_X1_isAlive
theorem dX1_requireToLive_0 : decode cX1_requireToLive 0 = .ok (.aload_n 0, 1) := by decide +kernel
theorem dX1_requireToLive_1 : decode cX1_requireToLive 1 = .ok (.iload_n 1, 1) := by decide +kernel
theorem dX1_requireToLive_2 : decode cX1_requireToLive 2 = .ok (.invokevirtual 114, 3) := by decide +kernel
theorem dX1_requireToLive_5 : decode cX1_requireToLive 5 = .ok (.ifCond .ne 13, 3) := by decide +kernel
theorem dX1_requireToLive_8 : decode cX1_requireToLive 8 = .ok (.new 171, 3) := by decide +kernel
theorem dX1_requireToLive_11 : decode cX1_requireToLive 11 = .ok (.dup, 1) := by decide +kernel
theorem dX1_requireToLive_12 : decode cX1_requireToLive 12 = .ok (.ldc 178, 2) := by decide +kernel
theorem dX1_requireToLive_14 : decode cX1_requireToLive 14 = .ok (.invokespecial 175, 3) := by decide +kernel
theorem dX1_requireToLive_17 : decode cX1_requireToLive 17 = .ok (.athrow, 1) := by decide +kernel
theorem dX1_requireToLive_18 : decode cX1_requireToLive 18 = .ok (.return_, 1) := by decide +kernel
theorem dX1_requirePlayer_0 : decode cX1_requirePlayer 0 = .ok (.iload_n 1, 1) := by decide +kernel
theorem dX1_requirePlayer_1 : decode cX1_requirePlayer 1 = .ok (.ifCond .lt 11, 3) := by decide +kernel
theorem dX1_requirePlayer_4 : decode cX1_requirePlayer 4 = .ok (.iload_n 1, 1) := by decide +kernel
theorem dX1_requirePlayer_5 : decode cX1_requirePlayer 5 = .ok (.aload_n 0, 1) := by decide +kernel
theorem dX1_requirePlayer_6 : decode cX1_requirePlayer 6 = .ok (.getfield 47, 3) := by decide +kernel
theorem dX1_requirePlayer_9 : decode cX1_requirePlayer 9 = .ok (.if_icmp .lt 13, 3) := by decide +kernel
theorem dX1_requirePlayer_12 : decode cX1_requirePlayer 12 = .ok (.new 180, 3) := by decide +kernel
theorem dX1_requirePlayer_15 : decode cX1_requirePlayer 15 = .ok (.dup, 1) := by decide +kernel
theorem dX1_requirePlayer_16 : decode cX1_requirePlayer 16 = .ok (.ldc 182, 2) := by decide +kernel
theorem dX1_requirePlayer_18 : decode cX1_requirePlayer 18 = .ok (.invokespecial 184, 3) := by decide +kernel
theorem dX1_requirePlayer_21 : decode cX1_requirePlayer 21 = .ok (.athrow, 1) := by decide +kernel
theorem dX1_requirePlayer_22 : decode cX1_requirePlayer 22 = .ok (.return_, 1) := by decide +kernel
set_option maxRecDepth 20000 in
theorem ggX1_requireViewer_X1_requirePlayer : GoodIn wsX1_requireViewer wsX1_requirePlayer := goodIn_ca (goodIn_r _ [5, 6, 7, 8, 9, 10, 11, 12, 13, 14, 15, 16, 17, 18, 19, 20, 21, 22] (by decide +kernel) (by decide +kernel)) (goodIn_sub (fun _ h => List.mem_cons_of_mem _ (List.mem_append_right _ h)) (by decide +kernel))
set_option maxRecDepth 20000 in
theorem gX1_requireViewer_X1_requirePlayer : GoodIn wsX1_requireViewer (wsV RX1 95 RX1 yX1_requirePlayer wsX1_requirePlayer) := goodIn_app (goodIn_of _ (by decide +kernel)) ggX1_requireViewer_X1_requirePlayer
theorem dX1_requireViewer_0 : decode cX1_requireViewer 0 = .ok (.iload_n 1, 1) := by decide +kernel
theorem dX1_requireViewer_1 : decode cX1_requireViewer 1 = .ok (.iconst (-1), 1) := by decide +kernel
theorem dX1_requireViewer_2 : decode cX1_requireViewer 2 = .ok (.if_icmp .eq 8, 3) := by decide +kernel
theorem dX1_requireViewer_5 : decode cX1_requireViewer 5 = .ok (.aload_n 0, 1) := by decide +kernel
theorem dX1_requireViewer_6 : decode cX1_requireViewer 6 = .ok (.iload_n 1, 1) := by decide +kernel
theorem dX1_requireViewer_7 : decode cX1_requireViewer 7 = .ok (.invokevirtual 95, 3) := by decide +kernel
theorem dX1_requireViewer_10 : decode cX1_requireViewer 10 = .ok (.return_, 1) := by decide +kernel
set_option maxRecDepth 20000 in
theorem ggX1_isDeal_X1_everyone : GoodIn wsX1_isDeal wsX1_everyone := goodIn_r _ [4] (by decide +kernel) (by decide +kernel)
set_option maxRecDepth 20000 in
theorem gX1_isDeal_X1_everyone : GoodIn wsX1_isDeal (va_wsS RX1 59 yX1_everyone wsX1_everyone) := goodIn_app (goodIn_of _ (by decide +kernel)) ggX1_isDeal_X1_everyone
set_option maxRecDepth 20000 in
theorem ggX1_isDeal_J6_bitCount_0f7a4 : GoodIn wsX1_isDeal wsJ6_bitCount_0f7a4 := goodIn_r _ [8, 9, 10, 11] (by decide +kernel) (by decide +kernel)
set_option maxRecDepth 20000 in
theorem gX1_isDeal_J6_bitCount_0f7a4 : GoodIn wsX1_isDeal (va_wsS RX1 185 yJ6_bitCount_0f7a4 wsJ6_bitCount_0f7a4) := goodIn_app (goodIn_of _ (by decide +kernel)) ggX1_isDeal_J6_bitCount_0f7a4
set_option maxRecDepth 20000 in
theorem ggX1_isDeal_X1_isHonestIn : GoodIn wsX1_isDeal wsX1_isHonestIn := goodIn_r _ [14, 15, 16, 3, 17] (by decide +kernel) (by decide +kernel)
set_option maxRecDepth 20000 in
theorem gX1_isDeal_X1_isHonestIn : GoodIn wsX1_isDeal (va_wsS RX1 190 yX1_isHonestIn wsX1_isHonestIn) := goodIn_app (goodIn_of _ (by decide +kernel)) ggX1_isDeal_X1_isHonestIn
theorem dX1_isDeal_0 : decode cX1_isDeal 0 = .ok (.iload_n 0, 1) := by decide +kernel
theorem dX1_isDeal_1 : decode cX1_isDeal 1 = .ok (.iconst 4, 1) := by decide +kernel
theorem dX1_isDeal_2 : decode cX1_isDeal 2 = .ok (.if_icmp .lt 61, 3) := by decide +kernel
theorem dX1_isDeal_5 : decode cX1_isDeal 5 = .ok (.iload_n 0, 1) := by decide +kernel
theorem dX1_isDeal_6 : decode cX1_isDeal 6 = .ok (.bipush 8, 2) := by decide +kernel
theorem dX1_isDeal_8 : decode cX1_isDeal 8 = .ok (.if_icmp .gt 55, 3) := by decide +kernel
theorem dX1_isDeal_11 : decode cX1_isDeal 11 = .ok (.iload_n 1, 1) := by decide +kernel
theorem dX1_isDeal_12 : decode cX1_isDeal 12 = .ok (.iload_n 0, 1) := by decide +kernel
theorem dX1_isDeal_13 : decode cX1_isDeal 13 = .ok (.invokestatic 59, 3) := by decide +kernel
theorem dX1_isDeal_16 : decode cX1_isDeal 16 = .ok (.iconst (-1), 1) := by decide +kernel
theorem dX1_isDeal_17 : decode cX1_isDeal 17 = .ok (.ixor, 1) := by decide +kernel
theorem dX1_isDeal_18 : decode cX1_isDeal 18 = .ok (.iand, 1) := by decide +kernel
theorem dX1_isDeal_19 : decode cX1_isDeal 19 = .ok (.ifCond .ne 44, 3) := by decide +kernel
theorem dX1_isDeal_22 : decode cX1_isDeal 22 = .ok (.iload_n 1, 1) := by decide +kernel
theorem dX1_isDeal_23 : decode cX1_isDeal 23 = .ok (.ifCond .eq 40, 3) := by decide +kernel
theorem dX1_isDeal_26 : decode cX1_isDeal 26 = .ok (.iconst 2, 1) := by decide +kernel
theorem dX1_isDeal_27 : decode cX1_isDeal 27 = .ok (.iload_n 1, 1) := by decide +kernel
theorem dX1_isDeal_28 : decode cX1_isDeal 28 = .ok (.invokestatic 185, 3) := by decide +kernel
theorem dX1_isDeal_31 : decode cX1_isDeal 31 = .ok (.imul, 1) := by decide +kernel
theorem dX1_isDeal_32 : decode cX1_isDeal 32 = .ok (.iload_n 0, 1) := by decide +kernel
theorem dX1_isDeal_33 : decode cX1_isDeal 33 = .ok (.if_icmp .ge 30, 3) := by decide +kernel
theorem dX1_isDeal_36 : decode cX1_isDeal 36 = .ok (.iload_n 0, 1) := by decide +kernel
theorem dX1_isDeal_37 : decode cX1_isDeal 37 = .ok (.iload_n 1, 1) := by decide +kernel
theorem dX1_isDeal_38 : decode cX1_isDeal 38 = .ok (.iload_n 2, 1) := by decide +kernel
theorem dX1_isDeal_39 : decode cX1_isDeal 39 = .ok (.invokestatic 190, 3) := by decide +kernel
theorem dX1_isDeal_42 : decode cX1_isDeal 42 = .ok (.ifCond .eq 21, 3) := by decide +kernel
theorem dX1_isDeal_45 : decode cX1_isDeal 45 = .ok (.iload_n 0, 1) := by decide +kernel
theorem dX1_isDeal_46 : decode cX1_isDeal 46 = .ok (.iload_n 1, 1) := by decide +kernel
theorem dX1_isDeal_47 : decode cX1_isDeal 47 = .ok (.iload_n 3, 1) := by decide +kernel
theorem dX1_isDeal_48 : decode cX1_isDeal 48 = .ok (.invokestatic 190, 3) := by decide +kernel
theorem dX1_isDeal_51 : decode cX1_isDeal 51 = .ok (.ifCond .eq 12, 3) := by decide +kernel
theorem dX1_isDeal_54 : decode cX1_isDeal 54 = .ok (.iload_n 2, 1) := by decide +kernel
theorem dX1_isDeal_55 : decode cX1_isDeal 55 = .ok (.iload_n 3, 1) := by decide +kernel
theorem dX1_isDeal_56 : decode cX1_isDeal 56 = .ok (.if_icmp .eq 7, 3) := by decide +kernel
theorem dX1_isDeal_59 : decode cX1_isDeal 59 = .ok (.iconst 1, 1) := by decide +kernel
theorem dX1_isDeal_60 : decode cX1_isDeal 60 = .ok (.goto 4, 3) := by decide +kernel
theorem dX1_isDeal_63 : decode cX1_isDeal 63 = .ok (.iconst 0, 1) := by decide +kernel
theorem dX1_isDeal_64 : decode cX1_isDeal 64 = .ok (.ireturn, 1) := by decide +kernel
set_option maxRecDepth 20000 in
theorem ggX1_isHonestIn_X1_setOf : GoodIn wsX1_isHonestIn wsX1_setOf := goodIn_r _ [4] (by decide +kernel) (by decide +kernel)
set_option maxRecDepth 20000 in
theorem gX1_isHonestIn_X1_setOf : GoodIn wsX1_isHonestIn (va_wsS RX1 194 yX1_setOf wsX1_setOf) := goodIn_app (goodIn_of _ (by decide +kernel)) ggX1_isHonestIn_X1_setOf
theorem dX1_isHonestIn_0 : decode cX1_isHonestIn 0 = .ok (.iload_n 2, 1) := by decide +kernel
theorem dX1_isHonestIn_1 : decode cX1_isHonestIn 1 = .ok (.ifCond .lt 21, 3) := by decide +kernel
theorem dX1_isHonestIn_4 : decode cX1_isHonestIn 4 = .ok (.iload_n 2, 1) := by decide +kernel
theorem dX1_isHonestIn_5 : decode cX1_isHonestIn 5 = .ok (.iload_n 0, 1) := by decide +kernel
theorem dX1_isHonestIn_6 : decode cX1_isHonestIn 6 = .ok (.if_icmp .ge 16, 3) := by decide +kernel
theorem dX1_isHonestIn_9 : decode cX1_isHonestIn 9 = .ok (.iload_n 1, 1) := by decide +kernel
theorem dX1_isHonestIn_10 : decode cX1_isHonestIn 10 = .ok (.iload_n 2, 1) := by decide +kernel
theorem dX1_isHonestIn_11 : decode cX1_isHonestIn 11 = .ok (.invokestatic 194, 3) := by decide +kernel
theorem dX1_isHonestIn_14 : decode cX1_isHonestIn 14 = .ok (.iand, 1) := by decide +kernel
theorem dX1_isHonestIn_15 : decode cX1_isHonestIn 15 = .ok (.ifCond .ne 7, 3) := by decide +kernel
theorem dX1_isHonestIn_18 : decode cX1_isHonestIn 18 = .ok (.iconst 1, 1) := by decide +kernel
theorem dX1_isHonestIn_19 : decode cX1_isHonestIn 19 = .ok (.goto 4, 3) := by decide +kernel
theorem dX1_isHonestIn_22 : decode cX1_isHonestIn 22 = .ok (.iconst 0, 1) := by decide +kernel
theorem dX1_isHonestIn_23 : decode cX1_isHonestIn 23 = .ok (.ireturn, 1) := by decide +kernel
theorem dX1_setOf_0 : decode cX1_setOf 0 = .ok (.iconst 1, 1) := by decide +kernel
theorem dX1_setOf_1 : decode cX1_setOf 1 = .ok (.iload_n 0, 1) := by decide +kernel
theorem dX1_setOf_2 : decode cX1_setOf 2 = .ok (.ishl, 1) := by decide +kernel
theorem dX1_setOf_3 : decode cX1_setOf 3 = .ok (.ireturn, 1) := by decide +kernel
theorem dX1_everyone_0 : decode cX1_everyone 0 = .ok (.iconst 1, 1) := by decide +kernel
theorem dX1_everyone_1 : decode cX1_everyone 1 = .ok (.iload_n 0, 1) := by decide +kernel
theorem dX1_everyone_2 : decode cX1_everyone 2 = .ok (.ishl, 1) := by decide +kernel
theorem dX1_everyone_3 : decode cX1_everyone 3 = .ok (.iconst 1, 1) := by decide +kernel
theorem dX1_everyone_4 : decode cX1_everyone 4 = .ok (.isub, 1) := by decide +kernel
theorem dX1_everyone_5 : decode cX1_everyone 5 = .ok (.ireturn, 1) := by decide +kernel
set_option maxRecDepth 20000 in
theorem ggX1_isAlive_X1_setOf : GoodIn wsX1_isAlive wsX1_setOf := goodIn_r _ [5] (by decide +kernel) (by decide +kernel)
set_option maxRecDepth 20000 in
theorem gX1_isAlive_X1_setOf : GoodIn wsX1_isAlive (va_wsS RX1 194 yX1_setOf wsX1_setOf) := goodIn_app (goodIn_of _ (by decide +kernel)) ggX1_isAlive_X1_setOf
theorem dX1_isAlive_0 : decode cX1_isAlive 0 = .ok (.aload_n 0, 1) := by decide +kernel
theorem dX1_isAlive_1 : decode cX1_isAlive 1 = .ok (.getfield 63, 3) := by decide +kernel
theorem dX1_isAlive_4 : decode cX1_isAlive 4 = .ok (.iload_n 1, 1) := by decide +kernel
theorem dX1_isAlive_5 : decode cX1_isAlive 5 = .ok (.invokestatic 194, 3) := by decide +kernel
theorem dX1_isAlive_8 : decode cX1_isAlive 8 = .ok (.iand, 1) := by decide +kernel
theorem dX1_isAlive_9 : decode cX1_isAlive 9 = .ok (.ifCond .eq 7, 3) := by decide +kernel
theorem dX1_isAlive_12 : decode cX1_isAlive 12 = .ok (.iconst 1, 1) := by decide +kernel
theorem dX1_isAlive_13 : decode cX1_isAlive 13 = .ok (.goto 4, 3) := by decide +kernel
theorem dX1_isAlive_16 : decode cX1_isAlive 16 = .ok (.iconst 0, 1) := by decide +kernel
theorem dX1_isAlive_17 : decode cX1_isAlive 17 = .ok (.ireturn, 1) := by decide +kernel
set_option maxRecDepth 20000 in
theorem ggX1_isWitch_X1_setOf : GoodIn wsX1_isWitch wsX1_setOf := goodIn_r _ [5] (by decide +kernel) (by decide +kernel)
set_option maxRecDepth 20000 in
theorem gX1_isWitch_X1_setOf : GoodIn wsX1_isWitch (va_wsS RX1 194 yX1_setOf wsX1_setOf) := goodIn_app (goodIn_of _ (by decide +kernel)) ggX1_isWitch_X1_setOf
theorem dX1_isWitch_0 : decode cX1_isWitch 0 = .ok (.aload_n 0, 1) := by decide +kernel
theorem dX1_isWitch_1 : decode cX1_isWitch 1 = .ok (.getfield 50, 3) := by decide +kernel
theorem dX1_isWitch_4 : decode cX1_isWitch 4 = .ok (.iload_n 1, 1) := by decide +kernel
theorem dX1_isWitch_5 : decode cX1_isWitch 5 = .ok (.invokestatic 194, 3) := by decide +kernel
theorem dX1_isWitch_8 : decode cX1_isWitch 8 = .ok (.iand, 1) := by decide +kernel
theorem dX1_isWitch_9 : decode cX1_isWitch 9 = .ok (.ifCond .eq 7, 3) := by decide +kernel
theorem dX1_isWitch_12 : decode cX1_isWitch 12 = .ok (.iconst 1, 1) := by decide +kernel
theorem dX1_isWitch_13 : decode cX1_isWitch 13 = .ok (.goto 4, 3) := by decide +kernel
theorem dX1_isWitch_16 : decode cX1_isWitch 16 = .ok (.iconst 0, 1) := by decide +kernel
theorem dX1_isWitch_17 : decode cX1_isWitch 17 = .ok (.ireturn, 1) := by decide +kernel
set_option maxRecDepth 20000 in
theorem ggX1_makeClaim_X1_isAlive : GoodIn wsX1_makeClaim wsX1_isAlive := goodIn_r _ [9, 10, 11, 12, 8, 13, 51, 52, 53, 54, 55, 56, 57, 58, 59, 60, 61, 62, 63, 64] (by decide +kernel) (by decide +kernel)
set_option maxRecDepth 20000 in
theorem gX1_makeClaim_X1_isAlive : GoodIn wsX1_makeClaim (wsV RX1 114 RX1 yX1_isAlive wsX1_isAlive) := goodIn_app (goodIn_of _ (by decide +kernel)) ggX1_makeClaim_X1_isAlive
set_option maxRecDepth 20000 in
theorem ggX1_makeClaim_X0_allowsClaim : GoodIn wsX1_makeClaim wsX0_allowsClaim := goodIn_r _ [17, 18, 19, 20, 15, 21, 12, 8, 13, 65, 66] (by decide +kernel) (by decide +kernel)
set_option maxRecDepth 20000 in
theorem gX1_makeClaim_X0_allowsClaim_n197 : GoodIn wsX1_makeClaim (wsX0_allowsClaim) := ggX1_makeClaim_X0_allowsClaim
set_option maxRecDepth 20000 in
theorem ggX1_makeClaim_X0_keepClaim : GoodIn wsX1_makeClaim wsX0_keepClaim := goodIn_r _ [24, 25, 19, 20, 15, 21, 12, 8, 13, 65, 66] (by decide +kernel) (by decide +kernel)
set_option maxRecDepth 20000 in
theorem gX1_makeClaim_X0_keepClaim_n206 : GoodIn wsX1_makeClaim (wsX0_keepClaim) := ggX1_makeClaim_X0_keepClaim
set_option maxRecDepth 20000 in
theorem ggX1_makeClaim_X1_knownBits : GoodIn wsX1_makeClaim wsX1_knownBits := goodIn_r _ [29, 30, 10, 31, 32, 33, 34, 8, 35, 36, 37, 38, 11, 12, 13, 39, 40, 41, 42, 43, 51, 52, 53, 54, 55, 56, 57, 58, 59, 60, 61, 62, 63, 64] (by decide +kernel) (by decide +kernel)
set_option maxRecDepth 20000 in
theorem gX1_makeClaim_X1_knownBits : GoodIn wsX1_makeClaim (wsV RX1 86 RX1 yX1_knownBits wsX1_knownBits) := goodIn_app (goodIn_of _ (by decide +kernel)) ggX1_makeClaim_X1_knownBits
set_option maxRecDepth 20000 in
theorem ggX1_makeClaim_X0_count : GoodIn wsX1_makeClaim wsX0_count := goodIn_r _ [46, 25, 47, 48, 49, 15, 50, 18, 65, 66] (by decide +kernel) (by decide +kernel)
set_option maxRecDepth 20000 in
theorem gX1_makeClaim_X0_count_n89 : GoodIn wsX1_makeClaim (wsX0_count) := ggX1_makeClaim_X0_count
theorem dX1_makeClaim_0 : decode cX1_makeClaim 0 = .ok (.aload_n 0, 1) := by decide +kernel
theorem dX1_makeClaim_1 : decode cX1_makeClaim 1 = .ok (.getfield 20, 3) := by decide +kernel
theorem dX1_makeClaim_4 : decode cX1_makeClaim 4 = .ok (.iconst 1, 1) := by decide +kernel
theorem dX1_makeClaim_5 : decode cX1_makeClaim 5 = .ok (.if_icmp .ne 24, 3) := by decide +kernel
theorem dX1_makeClaim_8 : decode cX1_makeClaim 8 = .ok (.aload_n 0, 1) := by decide +kernel
theorem dX1_makeClaim_9 : decode cX1_makeClaim 9 = .ok (.iload_n 1, 1) := by decide +kernel
theorem dX1_makeClaim_10 : decode cX1_makeClaim 10 = .ok (.invokevirtual 114, 3) := by decide +kernel
theorem dX1_makeClaim_13 : decode cX1_makeClaim 13 = .ok (.ifCond .eq 16, 3) := by decide +kernel
theorem dX1_makeClaim_16 : decode cX1_makeClaim 16 = .ok (.aload_n 0, 1) := by decide +kernel
theorem dX1_makeClaim_17 : decode cX1_makeClaim 17 = .ok (.getfield 12, 3) := by decide +kernel
theorem dX1_makeClaim_20 : decode cX1_makeClaim 20 = .ok (.iload_n 1, 1) := by decide +kernel
theorem dX1_makeClaim_21 : decode cX1_makeClaim 21 = .ok (.iload_n 2, 1) := by decide +kernel
theorem dX1_makeClaim_22 : decode cX1_makeClaim 22 = .ok (.iload_n 3, 1) := by decide +kernel
theorem dX1_makeClaim_23 : decode cX1_makeClaim 23 = .ok (.invokevirtual 197, 3) := by decide +kernel
theorem dX1_makeClaim_26 : decode cX1_makeClaim 26 = .ok (.ifCond .ne 13, 3) := by decide +kernel
theorem dX1_makeClaim_29 : decode cX1_makeClaim 29 = .ok (.new 201, 3) := by decide +kernel
theorem dX1_makeClaim_32 : decode cX1_makeClaim 32 = .ok (.dup, 1) := by decide +kernel
theorem dX1_makeClaim_33 : decode cX1_makeClaim 33 = .ok (.ldc 203, 2) := by decide +kernel
theorem dX1_makeClaim_35 : decode cX1_makeClaim 35 = .ok (.invokespecial 205, 3) := by decide +kernel
theorem dX1_makeClaim_38 : decode cX1_makeClaim 38 = .ok (.athrow, 1) := by decide +kernel
theorem dX1_makeClaim_39 : decode cX1_makeClaim 39 = .ok (.aload_n 0, 1) := by decide +kernel
theorem dX1_makeClaim_40 : decode cX1_makeClaim 40 = .ok (.getfield 12, 3) := by decide +kernel
theorem dX1_makeClaim_43 : decode cX1_makeClaim 43 = .ok (.iload_n 1, 1) := by decide +kernel
theorem dX1_makeClaim_44 : decode cX1_makeClaim 44 = .ok (.iload_n 2, 1) := by decide +kernel
theorem dX1_makeClaim_45 : decode cX1_makeClaim 45 = .ok (.iload_n 3, 1) := by decide +kernel
theorem dX1_makeClaim_46 : decode cX1_makeClaim 46 = .ok (.invokevirtual 206, 3) := by decide +kernel
theorem dX1_makeClaim_49 : decode cX1_makeClaim 49 = .ok (.aload_n 0, 1) := by decide +kernel
theorem dX1_makeClaim_50 : decode cX1_makeClaim 50 = .ok (.getfield 12, 3) := by decide +kernel
theorem dX1_makeClaim_53 : decode cX1_makeClaim 53 = .ok (.aload_n 0, 1) := by decide +kernel
theorem dX1_makeClaim_54 : decode cX1_makeClaim 54 = .ok (.iconst (-1), 1) := by decide +kernel
theorem dX1_makeClaim_55 : decode cX1_makeClaim 55 = .ok (.invokevirtual 86, 3) := by decide +kernel
theorem dX1_makeClaim_58 : decode cX1_makeClaim 58 = .ok (.invokevirtual 89, 3) := by decide +kernel
theorem dX1_makeClaim_61 : decode cX1_makeClaim 61 = .ok (.ireturn, 1) := by decide +kernel
theorem dX1_countVotes_0 : decode cX1_countVotes 0 = .ok (.iconst 0, 1) := by decide +kernel
theorem dX1_countVotes_1 : decode cX1_countVotes 1 = .ok (.istore_n 2, 1) := by decide +kernel
theorem dX1_countVotes_2 : decode cX1_countVotes 2 = .ok (.aload_n 0, 1) := by decide +kernel
theorem dX1_countVotes_3 : decode cX1_countVotes 3 = .ok (.getfield 16, 3) := by decide +kernel
theorem dX1_countVotes_6 : decode cX1_countVotes 6 = .ok (.astore_n 3, 1) := by decide +kernel
theorem dX1_countVotes_7 : decode cX1_countVotes 7 = .ok (.aload_n 3, 1) := by decide +kernel
theorem dX1_countVotes_8 : decode cX1_countVotes 8 = .ok (.arraylength, 1) := by decide +kernel
theorem dX1_countVotes_9 : decode cX1_countVotes 9 = .ok (.istore 4, 2) := by decide +kernel
theorem dX1_countVotes_11 : decode cX1_countVotes 11 = .ok (.iconst 0, 1) := by decide +kernel
theorem dX1_countVotes_12 : decode cX1_countVotes 12 = .ok (.istore 5, 2) := by decide +kernel
theorem dX1_countVotes_14 : decode cX1_countVotes 14 = .ok (.iload 5, 2) := by decide +kernel
theorem dX1_countVotes_16 : decode cX1_countVotes 16 = .ok (.iload 4, 2) := by decide +kernel
theorem dX1_countVotes_18 : decode cX1_countVotes 18 = .ok (.if_icmp .ge 24, 3) := by decide +kernel
theorem dX1_countVotes_21 : decode cX1_countVotes 21 = .ok (.aload_n 3, 1) := by decide +kernel
theorem dX1_countVotes_22 : decode cX1_countVotes 22 = .ok (.iload 5, 2) := by decide +kernel
theorem dX1_countVotes_24 : decode cX1_countVotes 24 = .ok (.iaload, 1) := by decide +kernel
theorem dX1_countVotes_25 : decode cX1_countVotes 25 = .ok (.istore 6, 2) := by decide +kernel
theorem dX1_countVotes_27 : decode cX1_countVotes 27 = .ok (.iload 6, 2) := by decide +kernel
theorem dX1_countVotes_29 : decode cX1_countVotes 29 = .ok (.iload_n 1, 1) := by decide +kernel
theorem dX1_countVotes_30 : decode cX1_countVotes 30 = .ok (.if_icmp .ne 6, 3) := by decide +kernel
theorem dX1_countVotes_33 : decode cX1_countVotes 33 = .ok (.iinc 2 1, 3) := by decide +kernel
theorem dX1_countVotes_36 : decode cX1_countVotes 36 = .ok (.iinc 5 1, 3) := by decide +kernel
theorem dX1_countVotes_39 : decode cX1_countVotes 39 = .ok (.goto (-25), 3) := by decide +kernel
theorem dX1_countVotes_42 : decode cX1_countVotes 42 = .ok (.iload_n 2, 1) := by decide +kernel
theorem dX1_countVotes_43 : decode cX1_countVotes 43 = .ok (.ireturn, 1) := by decide +kernel
set_option maxRecDepth 20000 in
theorem ggX1_playerWithMostVotes_X1_countVotes : GoodIn wsX1_playerWithMostVotes wsX1_countVotes := goodIn_r _ [6, 7, 8, 9, 10, 11, 12, 13, 14, 15, 16, 17, 18, 19, 20, 21] (by decide +kernel) (by decide +kernel)
set_option maxRecDepth 20000 in
theorem gX1_playerWithMostVotes_X1_countVotes : GoodIn wsX1_playerWithMostVotes (wsV RX1 120 RX1 yX1_countVotes wsX1_countVotes) := goodIn_app (goodIn_of _ (by decide +kernel)) ggX1_playerWithMostVotes_X1_countVotes
theorem dX1_playerWithMostVotes_0 : decode cX1_playerWithMostVotes 0 = .ok (.iconst (-1), 1) := by decide +kernel
theorem dX1_playerWithMostVotes_1 : decode cX1_playerWithMostVotes 1 = .ok (.istore_n 1, 1) := by decide +kernel
theorem dX1_playerWithMostVotes_2 : decode cX1_playerWithMostVotes 2 = .ok (.iconst 0, 1) := by decide +kernel
theorem dX1_playerWithMostVotes_3 : decode cX1_playerWithMostVotes 3 = .ok (.istore_n 2, 1) := by decide +kernel
theorem dX1_playerWithMostVotes_4 : decode cX1_playerWithMostVotes 4 = .ok (.iconst 0, 1) := by decide +kernel
theorem dX1_playerWithMostVotes_5 : decode cX1_playerWithMostVotes 5 = .ok (.istore_n 3, 1) := by decide +kernel
theorem dX1_playerWithMostVotes_6 : decode cX1_playerWithMostVotes 6 = .ok (.iload_n 3, 1) := by decide +kernel
theorem dX1_playerWithMostVotes_7 : decode cX1_playerWithMostVotes 7 = .ok (.aload_n 0, 1) := by decide +kernel
theorem dX1_playerWithMostVotes_8 : decode cX1_playerWithMostVotes 8 = .ok (.getfield 47, 3) := by decide +kernel
theorem dX1_playerWithMostVotes_11 : decode cX1_playerWithMostVotes 11 = .ok (.if_icmp .ge 38, 3) := by decide +kernel
theorem dX1_playerWithMostVotes_14 : decode cX1_playerWithMostVotes 14 = .ok (.aload_n 0, 1) := by decide +kernel
theorem dX1_playerWithMostVotes_15 : decode cX1_playerWithMostVotes 15 = .ok (.iload_n 3, 1) := by decide +kernel
theorem dX1_playerWithMostVotes_16 : decode cX1_playerWithMostVotes 16 = .ok (.invokevirtual 120, 3) := by decide +kernel
theorem dX1_playerWithMostVotes_19 : decode cX1_playerWithMostVotes 19 = .ok (.istore 4, 2) := by decide +kernel
theorem dX1_playerWithMostVotes_21 : decode cX1_playerWithMostVotes 21 = .ok (.iload 4, 2) := by decide +kernel
theorem dX1_playerWithMostVotes_23 : decode cX1_playerWithMostVotes 23 = .ok (.iload_n 2, 1) := by decide +kernel
theorem dX1_playerWithMostVotes_24 : decode cX1_playerWithMostVotes 24 = .ok (.if_icmp .le 11, 3) := by decide +kernel
theorem dX1_playerWithMostVotes_27 : decode cX1_playerWithMostVotes 27 = .ok (.iload 4, 2) := by decide +kernel
theorem dX1_playerWithMostVotes_29 : decode cX1_playerWithMostVotes 29 = .ok (.istore_n 2, 1) := by decide +kernel
theorem dX1_playerWithMostVotes_30 : decode cX1_playerWithMostVotes 30 = .ok (.iload_n 3, 1) := by decide +kernel
theorem dX1_playerWithMostVotes_31 : decode cX1_playerWithMostVotes 31 = .ok (.istore_n 1, 1) := by decide +kernel
theorem dX1_playerWithMostVotes_32 : decode cX1_playerWithMostVotes 32 = .ok (.goto 11, 3) := by decide +kernel
theorem dX1_playerWithMostVotes_35 : decode cX1_playerWithMostVotes 35 = .ok (.iload 4, 2) := by decide +kernel
theorem dX1_playerWithMostVotes_37 : decode cX1_playerWithMostVotes 37 = .ok (.iload_n 2, 1) := by decide +kernel
theorem dX1_playerWithMostVotes_38 : decode cX1_playerWithMostVotes 38 = .ok (.if_icmp .ne 5, 3) := by decide +kernel
theorem dX1_playerWithMostVotes_41 : decode cX1_playerWithMostVotes 41 = .ok (.iconst (-1), 1) := by decide +kernel
theorem dX1_playerWithMostVotes_42 : decode cX1_playerWithMostVotes 42 = .ok (.istore_n 1, 1) := by decide +kernel
theorem dX1_playerWithMostVotes_43 : decode cX1_playerWithMostVotes 43 = .ok (.iinc 3 1, 3) := by decide +kernel
theorem dX1_playerWithMostVotes_46 : decode cX1_playerWithMostVotes 46 = .ok (.goto (-40), 3) := by decide +kernel
theorem dX1_playerWithMostVotes_49 : decode cX1_playerWithMostVotes 49 = .ok (.iload_n 1, 1) := by decide +kernel
theorem dX1_playerWithMostVotes_50 : decode cX1_playerWithMostVotes 50 = .ok (.ireturn, 1) := by decide +kernel
set_option maxRecDepth 20000 in
theorem ggX1_forgetVotes_J7_fill_53178 : GoodIn wsX1_forgetVotes wsJ7_fill_53178 := goodIn_r _ [5] (by decide +kernel) (by decide +kernel)
set_option maxRecDepth 20000 in
theorem gX1_forgetVotes_J7_fill_53178 : GoodIn wsX1_forgetVotes (va_wsS RX1 210 yJ7_fill_53178 wsJ7_fill_53178) := goodIn_app (goodIn_of _ (by decide +kernel)) ggX1_forgetVotes_J7_fill_53178
theorem dX1_forgetVotes_0 : decode cX1_forgetVotes 0 = .ok (.aload_n 0, 1) := by decide +kernel
theorem dX1_forgetVotes_1 : decode cX1_forgetVotes 1 = .ok (.getfield 16, 3) := by decide +kernel
theorem dX1_forgetVotes_4 : decode cX1_forgetVotes 4 = .ok (.iconst (-1), 1) := by decide +kernel
theorem dX1_forgetVotes_5 : decode cX1_forgetVotes 5 = .ok (.invokestatic 210, 3) := by decide +kernel
theorem dX1_forgetVotes_8 : decode cX1_forgetVotes 8 = .ok (.return_, 1) := by decide +kernel
theorem dX1_forgetChoices_0 : decode cX1_forgetChoices 0 = .ok (.aload_n 0, 1) := by decide +kernel
theorem dX1_forgetChoices_1 : decode cX1_forgetChoices 1 = .ok (.iconst (-1), 1) := by decide +kernel
theorem dX1_forgetChoices_2 : decode cX1_forgetChoices 2 = .ok (.putfield 24, 3) := by decide +kernel
theorem dX1_forgetChoices_5 : decode cX1_forgetChoices 5 = .ok (.aload_n 0, 1) := by decide +kernel
theorem dX1_forgetChoices_6 : decode cX1_forgetChoices 6 = .ok (.iconst (-1), 1) := by decide +kernel
theorem dX1_forgetChoices_7 : decode cX1_forgetChoices 7 = .ok (.putfield 27, 3) := by decide +kernel
theorem dX1_forgetChoices_10 : decode cX1_forgetChoices 10 = .ok (.aload_n 0, 1) := by decide +kernel
theorem dX1_forgetChoices_11 : decode cX1_forgetChoices 11 = .ok (.iconst (-1), 1) := by decide +kernel
theorem dX1_forgetChoices_12 : decode cX1_forgetChoices 12 = .ok (.putfield 30, 3) := by decide +kernel
theorem dX1_forgetChoices_15 : decode cX1_forgetChoices 15 = .ok (.return_, 1) := by decide +kernel
set_option maxRecDepth 20000 in
theorem ggX1_die_X1_setOf : GoodIn wsX1_die wsX1_setOf := goodIn_r _ [7] (by decide +kernel) (by decide +kernel)
set_option maxRecDepth 20000 in
theorem gX1_die_X1_setOf : GoodIn wsX1_die (va_wsS RX1 194 yX1_setOf wsX1_setOf) := goodIn_app (goodIn_of _ (by decide +kernel)) ggX1_die_X1_setOf
set_option maxRecDepth 20000 in
theorem ggX1_die_J6_bitCount_0f7a4 : GoodIn wsX1_die wsJ6_bitCount_0f7a4 := goodIn_r _ [11, 12, 13, 14] (by decide +kernel) (by decide +kernel)
set_option maxRecDepth 20000 in
theorem gX1_die_J6_bitCount_0f7a4 : GoodIn wsX1_die (va_wsS RX1 185 yJ6_bitCount_0f7a4 wsJ6_bitCount_0f7a4) := goodIn_app (goodIn_of _ (by decide +kernel)) ggX1_die_J6_bitCount_0f7a4
theorem dX1_die_0 : decode cX1_die 0 = .ok (.aload_n 0, 1) := by decide +kernel
theorem dX1_die_1 : decode cX1_die 1 = .ok (.aload_n 0, 1) := by decide +kernel
theorem dX1_die_2 : decode cX1_die 2 = .ok (.getfield 63, 3) := by decide +kernel
theorem dX1_die_5 : decode cX1_die 5 = .ok (.iload_n 1, 1) := by decide +kernel
theorem dX1_die_6 : decode cX1_die 6 = .ok (.invokestatic 194, 3) := by decide +kernel
theorem dX1_die_9 : decode cX1_die 9 = .ok (.iconst (-1), 1) := by decide +kernel
theorem dX1_die_10 : decode cX1_die 10 = .ok (.ixor, 1) := by decide +kernel
theorem dX1_die_11 : decode cX1_die 11 = .ok (.iand, 1) := by decide +kernel
theorem dX1_die_12 : decode cX1_die 12 = .ok (.putfield 63, 3) := by decide +kernel
theorem dX1_die_15 : decode cX1_die 15 = .ok (.aload_n 0, 1) := by decide +kernel
theorem dX1_die_16 : decode cX1_die 16 = .ok (.getfield 63, 3) := by decide +kernel
theorem dX1_die_19 : decode cX1_die 19 = .ok (.aload_n 0, 1) := by decide +kernel
theorem dX1_die_20 : decode cX1_die 20 = .ok (.getfield 50, 3) := by decide +kernel
theorem dX1_die_23 : decode cX1_die 23 = .ok (.iand, 1) := by decide +kernel
theorem dX1_die_24 : decode cX1_die 24 = .ok (.invokestatic 185, 3) := by decide +kernel
theorem dX1_die_27 : decode cX1_die 27 = .ok (.istore_n 2, 1) := by decide +kernel
theorem dX1_die_28 : decode cX1_die 28 = .ok (.aload_n 0, 1) := by decide +kernel
theorem dX1_die_29 : decode cX1_die 29 = .ok (.getfield 63, 3) := by decide +kernel
theorem dX1_die_32 : decode cX1_die 32 = .ok (.aload_n 0, 1) := by decide +kernel
theorem dX1_die_33 : decode cX1_die 33 = .ok (.getfield 50, 3) := by decide +kernel
theorem dX1_die_36 : decode cX1_die 36 = .ok (.iconst (-1), 1) := by decide +kernel
theorem dX1_die_37 : decode cX1_die 37 = .ok (.ixor, 1) := by decide +kernel
theorem dX1_die_38 : decode cX1_die 38 = .ok (.iand, 1) := by decide +kernel
theorem dX1_die_39 : decode cX1_die 39 = .ok (.invokestatic 185, 3) := by decide +kernel
theorem dX1_die_42 : decode cX1_die 42 = .ok (.istore_n 3, 1) := by decide +kernel
theorem dX1_die_43 : decode cX1_die 43 = .ok (.iload_n 2, 1) := by decide +kernel
theorem dX1_die_44 : decode cX1_die 44 = .ok (.ifCond .ne 11, 3) := by decide +kernel
theorem dX1_die_47 : decode cX1_die 47 = .ok (.aload_n 0, 1) := by decide +kernel
theorem dX1_die_48 : decode cX1_die 48 = .ok (.iconst 3, 1) := by decide +kernel
theorem dX1_die_49 : decode cX1_die 49 = .ok (.putfield 20, 3) := by decide +kernel
theorem dX1_die_52 : decode cX1_die 52 = .ok (.goto 13, 3) := by decide +kernel
theorem dX1_die_55 : decode cX1_die 55 = .ok (.iload_n 2, 1) := by decide +kernel
theorem dX1_die_56 : decode cX1_die 56 = .ok (.iload_n 3, 1) := by decide +kernel
theorem dX1_die_57 : decode cX1_die 57 = .ok (.if_icmp .lt 8, 3) := by decide +kernel
theorem dX1_die_60 : decode cX1_die 60 = .ok (.aload_n 0, 1) := by decide +kernel
theorem dX1_die_61 : decode cX1_die 61 = .ok (.iconst 4, 1) := by decide +kernel
theorem dX1_die_62 : decode cX1_die 62 = .ok (.putfield 20, 3) := by decide +kernel
theorem dX1_die_65 : decode cX1_die 65 = .ok (.return_, 1) := by decide +kernel
set_option maxRecDepth 20000 in
theorem ggX1_seerLooks_X1_isAlive : GoodIn wsX1_seerLooks wsX1_isAlive := goodIn_r _ [8, 9, 10, 11, 7, 12, 13, 14, 15, 16, 17, 18, 19, 20, 21, 22, 23, 24, 25, 26] (by decide +kernel) (by decide +kernel)
set_option maxRecDepth 20000 in
theorem gX1_seerLooks_X1_isAlive : GoodIn wsX1_seerLooks (wsV RX1 114 RX1 yX1_isAlive wsX1_isAlive) := goodIn_app (goodIn_of _ (by decide +kernel)) ggX1_seerLooks_X1_isAlive
set_option maxRecDepth 20000 in
theorem ggX1_seerLooks_X1_setOf : GoodIn wsX1_seerLooks wsX1_setOf := goodIn_r _ [12] (by decide +kernel) (by decide +kernel)
set_option maxRecDepth 20000 in
theorem gX1_seerLooks_X1_setOf : GoodIn wsX1_seerLooks (va_wsS RX1 194 yX1_setOf wsX1_setOf) := goodIn_app (goodIn_of _ (by decide +kernel)) ggX1_seerLooks_X1_setOf
theorem dX1_seerLooks_0 : decode cX1_seerLooks 0 = .ok (.aload_n 0, 1) := by decide +kernel
theorem dX1_seerLooks_1 : decode cX1_seerLooks 1 = .ok (.getfield 30, 3) := by decide +kernel
theorem dX1_seerLooks_4 : decode cX1_seerLooks 4 = .ok (.iconst (-1), 1) := by decide +kernel
theorem dX1_seerLooks_5 : decode cX1_seerLooks 5 = .ok (.if_icmp .eq 30, 3) := by decide +kernel
theorem dX1_seerLooks_8 : decode cX1_seerLooks 8 = .ok (.aload_n 0, 1) := by decide +kernel
theorem dX1_seerLooks_9 : decode cX1_seerLooks 9 = .ok (.aload_n 0, 1) := by decide +kernel
theorem dX1_seerLooks_10 : decode cX1_seerLooks 10 = .ok (.getfield 53, 3) := by decide +kernel
theorem dX1_seerLooks_13 : decode cX1_seerLooks 13 = .ok (.invokevirtual 114, 3) := by decide +kernel
theorem dX1_seerLooks_16 : decode cX1_seerLooks 16 = .ok (.ifCond .eq 19, 3) := by decide +kernel
theorem dX1_seerLooks_19 : decode cX1_seerLooks 19 = .ok (.aload_n 0, 1) := by decide +kernel
theorem dX1_seerLooks_20 : decode cX1_seerLooks 20 = .ok (.aload_n 0, 1) := by decide +kernel
theorem dX1_seerLooks_21 : decode cX1_seerLooks 21 = .ok (.getfield 66, 3) := by decide +kernel
theorem dX1_seerLooks_24 : decode cX1_seerLooks 24 = .ok (.aload_n 0, 1) := by decide +kernel
theorem dX1_seerLooks_25 : decode cX1_seerLooks 25 = .ok (.getfield 30, 3) := by decide +kernel
theorem dX1_seerLooks_28 : decode cX1_seerLooks 28 = .ok (.invokestatic 194, 3) := by decide +kernel
theorem dX1_seerLooks_31 : decode cX1_seerLooks 31 = .ok (.ior, 1) := by decide +kernel
theorem dX1_seerLooks_32 : decode cX1_seerLooks 32 = .ok (.putfield 66, 3) := by decide +kernel
theorem dX1_seerLooks_35 : decode cX1_seerLooks 35 = .ok (.return_, 1) := by decide +kernel
set_option maxRecDepth 20000 in
theorem ggX1_worldOf_X1_setOf : GoodIn wsX1_worldOf wsX1_setOf := goodIn_r _ [4] (by decide +kernel) (by decide +kernel)
set_option maxRecDepth 20000 in
theorem gX1_worldOf_X1_setOf : GoodIn wsX1_worldOf (va_wsS RX1 194 yX1_setOf wsX1_setOf) := goodIn_app (goodIn_of _ (by decide +kernel)) ggX1_worldOf_X1_setOf
theorem dX1_worldOf_0 : decode cX1_worldOf 0 = .ok (.iload_n 0, 1) := by decide +kernel
theorem dX1_worldOf_1 : decode cX1_worldOf 1 = .ok (.iload_n 1, 1) := by decide +kernel
theorem dX1_worldOf_2 : decode cX1_worldOf 2 = .ok (.invokestatic 194, 3) := by decide +kernel
theorem dX1_worldOf_5 : decode cX1_worldOf 5 = .ok (.bipush 8, 2) := by decide +kernel
theorem dX1_worldOf_7 : decode cX1_worldOf 7 = .ok (.ishl, 1) := by decide +kernel
theorem dX1_worldOf_8 : decode cX1_worldOf 8 = .ok (.ior, 1) := by decide +kernel
theorem dX1_worldOf_9 : decode cX1_worldOf 9 = .ok (.iload_n 2, 1) := by decide +kernel
theorem dX1_worldOf_10 : decode cX1_worldOf 10 = .ok (.invokestatic 194, 3) := by decide +kernel
theorem dX1_worldOf_13 : decode cX1_worldOf 13 = .ok (.bipush 16, 2) := by decide +kernel
theorem dX1_worldOf_15 : decode cX1_worldOf 15 = .ok (.ishl, 1) := by decide +kernel
theorem dX1_worldOf_16 : decode cX1_worldOf 16 = .ok (.ior, 1) := by decide +kernel
theorem dX1_worldOf_17 : decode cX1_worldOf 17 = .ok (.ireturn, 1) := by decide +kernel
theorem dX1_witchesOf_0 : decode cX1_witchesOf 0 = .ok (.iload_n 0, 1) := by decide +kernel
theorem dX1_witchesOf_1 : decode cX1_witchesOf 1 = .ok (.sipush 255, 3) := by decide +kernel
theorem dX1_witchesOf_4 : decode cX1_witchesOf 4 = .ok (.iand, 1) := by decide +kernel
theorem dX1_witchesOf_5 : decode cX1_witchesOf 5 = .ok (.ireturn, 1) := by decide +kernel
theorem dX1_roleBits_0 : decode cX1_roleBits 0 = .ok (.iload_n 0, 1) := by decide +kernel
theorem dX1_roleBits_1 : decode cX1_roleBits 1 = .ok (.iload_n 0, 1) := by decide +kernel
theorem dX1_roleBits_2 : decode cX1_roleBits 2 = .ok (.bipush 8, 2) := by decide +kernel
theorem dX1_roleBits_4 : decode cX1_roleBits 4 = .ok (.ishl, 1) := by decide +kernel
theorem dX1_roleBits_5 : decode cX1_roleBits 5 = .ok (.ior, 1) := by decide +kernel
theorem dX1_roleBits_6 : decode cX1_roleBits 6 = .ok (.iload_n 0, 1) := by decide +kernel
theorem dX1_roleBits_7 : decode cX1_roleBits 7 = .ok (.bipush 16, 2) := by decide +kernel
theorem dX1_roleBits_9 : decode cX1_roleBits 9 = .ok (.ishl, 1) := by decide +kernel
theorem dX1_roleBits_10 : decode cX1_roleBits 10 = .ok (.ior, 1) := by decide +kernel
theorem dX1_roleBits_11 : decode cX1_roleBits 11 = .ok (.ireturn, 1) := by decide +kernel
set_option maxRecDepth 20000 in
theorem ggX1_bitOfRole_X1_setOf : GoodIn wsX1_bitOfRole wsX1_setOf := goodIn_r _ [4] (by decide +kernel) (by decide +kernel)
set_option maxRecDepth 20000 in
theorem gX1_bitOfRole_X1_setOf : GoodIn wsX1_bitOfRole (va_wsS RX1 194 yX1_setOf wsX1_setOf) := goodIn_app (goodIn_of _ (by decide +kernel)) ggX1_bitOfRole_X1_setOf
theorem dX1_bitOfRole_0 : decode cX1_bitOfRole 0 = .ok (.iload_n 1, 1) := by decide +kernel
theorem dX1_bitOfRole_1 : decode cX1_bitOfRole 1 = .ok (.tableswitch 48 1 3 #[27, 32, 40], 27) := by decide +kernel
theorem dX1_bitOfRole_28 : decode cX1_bitOfRole 28 = .ok (.iload_n 0, 1) := by decide +kernel
theorem dX1_bitOfRole_29 : decode cX1_bitOfRole 29 = .ok (.invokestatic 194, 3) := by decide +kernel
theorem dX1_bitOfRole_32 : decode cX1_bitOfRole 32 = .ok (.ireturn, 1) := by decide +kernel
theorem dX1_bitOfRole_33 : decode cX1_bitOfRole 33 = .ok (.iload_n 0, 1) := by decide +kernel
theorem dX1_bitOfRole_34 : decode cX1_bitOfRole 34 = .ok (.invokestatic 194, 3) := by decide +kernel
theorem dX1_bitOfRole_37 : decode cX1_bitOfRole 37 = .ok (.bipush 8, 2) := by decide +kernel
theorem dX1_bitOfRole_39 : decode cX1_bitOfRole 39 = .ok (.ishl, 1) := by decide +kernel
theorem dX1_bitOfRole_40 : decode cX1_bitOfRole 40 = .ok (.ireturn, 1) := by decide +kernel
theorem dX1_bitOfRole_41 : decode cX1_bitOfRole 41 = .ok (.iload_n 0, 1) := by decide +kernel
theorem dX1_bitOfRole_42 : decode cX1_bitOfRole 42 = .ok (.invokestatic 194, 3) := by decide +kernel
theorem dX1_bitOfRole_45 : decode cX1_bitOfRole 45 = .ok (.bipush 16, 2) := by decide +kernel
theorem dX1_bitOfRole_47 : decode cX1_bitOfRole 47 = .ok (.ishl, 1) := by decide +kernel
theorem dX1_bitOfRole_48 : decode cX1_bitOfRole 48 = .ok (.ireturn, 1) := by decide +kernel
theorem dX1_bitOfRole_49 : decode cX1_bitOfRole 49 = .ok (.iconst 0, 1) := by decide +kernel
theorem dX1_bitOfRole_50 : decode cX1_bitOfRole 50 = .ok (.ireturn, 1) := by decide +kernel
set_option maxRecDepth 20000 in
theorem ggX1_claimedBits_X1_bitOfRole : GoodIn wsX1_claimedBits wsX1_bitOfRole := goodIn_r _ [4, 5, 6, 3, 7] (by decide +kernel) (by decide +kernel)
set_option maxRecDepth 20000 in
theorem gX1_claimedBits_X1_bitOfRole : GoodIn wsX1_claimedBits (va_wsS RX1 216 yX1_bitOfRole wsX1_bitOfRole) := goodIn_app (goodIn_of _ (by decide +kernel)) ggX1_claimedBits_X1_bitOfRole
theorem dX1_claimedBits_0 : decode cX1_claimedBits 0 = .ok (.iload_n 0, 1) := by decide +kernel
theorem dX1_claimedBits_1 : decode cX1_claimedBits 1 = .ok (.lookupswitch 39 #[(2, 27), (3, 33)], 27) := by decide +kernel
theorem dX1_claimedBits_28 : decode cX1_claimedBits 28 = .ok (.iload_n 1, 1) := by decide +kernel
theorem dX1_claimedBits_29 : decode cX1_claimedBits 29 = .ok (.iconst 2, 1) := by decide +kernel
theorem dX1_claimedBits_30 : decode cX1_claimedBits 30 = .ok (.invokestatic 216, 3) := by decide +kernel
theorem dX1_claimedBits_33 : decode cX1_claimedBits 33 = .ok (.ireturn, 1) := by decide +kernel
theorem dX1_claimedBits_34 : decode cX1_claimedBits 34 = .ok (.iload_n 1, 1) := by decide +kernel
theorem dX1_claimedBits_35 : decode cX1_claimedBits 35 = .ok (.iconst 3, 1) := by decide +kernel
theorem dX1_claimedBits_36 : decode cX1_claimedBits 36 = .ok (.invokestatic 216, 3) := by decide +kernel
theorem dX1_claimedBits_39 : decode cX1_claimedBits 39 = .ok (.ireturn, 1) := by decide +kernel
theorem dX1_claimedBits_40 : decode cX1_claimedBits 40 = .ok (.iload_n 1, 1) := by decide +kernel
theorem dX1_claimedBits_41 : decode cX1_claimedBits 41 = .ok (.iconst 1, 1) := by decide +kernel
theorem dX1_claimedBits_42 : decode cX1_claimedBits 42 = .ok (.invokestatic 216, 3) := by decide +kernel
theorem dX1_claimedBits_45 : decode cX1_claimedBits 45 = .ok (.ireturn, 1) := by decide +kernel
set_option maxRecDepth 20000 in
theorem ggX1_knownBits_X1_everyone : GoodIn wsX1_knownBits wsX1_everyone := goodIn_r _ [8] (by decide +kernel) (by decide +kernel)
set_option maxRecDepth 20000 in
theorem gX1_knownBits_X1_everyone : GoodIn wsX1_knownBits (va_wsS RX1 59 yX1_everyone wsX1_everyone) := goodIn_app (goodIn_of _ (by decide +kernel)) ggX1_knownBits_X1_everyone
set_option maxRecDepth 20000 in
theorem ggX1_knownBits_X1_roleBits : GoodIn wsX1_knownBits wsX1_roleBits := goodIn_r _ [11] (by decide +kernel) (by decide +kernel)
set_option maxRecDepth 20000 in
theorem gX1_knownBits_X1_roleBits : GoodIn wsX1_knownBits (va_wsS RX1 219 yX1_roleBits wsX1_roleBits) := goodIn_app (goodIn_of _ (by decide +kernel)) ggX1_knownBits_X1_roleBits
set_option maxRecDepth 20000 in
theorem ggX1_knownBits_X1_setOf : GoodIn wsX1_knownBits wsX1_setOf := goodIn_r _ [14] (by decide +kernel) (by decide +kernel)
set_option maxRecDepth 20000 in
theorem gX1_knownBits_X1_setOf : GoodIn wsX1_knownBits (va_wsS RX1 194 yX1_setOf wsX1_setOf) := goodIn_app (goodIn_of _ (by decide +kernel)) ggX1_knownBits_X1_setOf
set_option maxRecDepth 20000 in
theorem ggX1_knownBits_X1_isWitch : GoodIn wsX1_knownBits wsX1_isWitch := goodIn_r _ [18, 19, 12, 13, 7, 14, 20, 21, 22, 23, 24, 25, 26, 27, 28, 29, 30, 31, 32, 33] (by decide +kernel) (by decide +kernel)
set_option maxRecDepth 20000 in
theorem gX1_knownBits_X1_isWitch : GoodIn wsX1_knownBits (wsV RX1 135 RX1 yX1_isWitch wsX1_isWitch) := goodIn_app (goodIn_of _ (by decide +kernel)) ggX1_knownBits_X1_isWitch
theorem dX1_knownBits_0 : decode cX1_knownBits 0 = .ok (.aload_n 0, 1) := by decide +kernel
theorem dX1_knownBits_1 : decode cX1_knownBits 1 = .ok (.getfield 47, 3) := by decide +kernel
theorem dX1_knownBits_4 : decode cX1_knownBits 4 = .ok (.invokestatic 59, 3) := by decide +kernel
theorem dX1_knownBits_7 : decode cX1_knownBits 7 = .ok (.aload_n 0, 1) := by decide +kernel
theorem dX1_knownBits_8 : decode cX1_knownBits 8 = .ok (.getfield 63, 3) := by decide +kernel
theorem dX1_knownBits_11 : decode cX1_knownBits 11 = .ok (.iconst (-1), 1) := by decide +kernel
theorem dX1_knownBits_12 : decode cX1_knownBits 12 = .ok (.ixor, 1) := by decide +kernel
theorem dX1_knownBits_13 : decode cX1_knownBits 13 = .ok (.iand, 1) := by decide +kernel
theorem dX1_knownBits_14 : decode cX1_knownBits 14 = .ok (.invokestatic 219, 3) := by decide +kernel
theorem dX1_knownBits_17 : decode cX1_knownBits 17 = .ok (.istore_n 2, 1) := by decide +kernel
theorem dX1_knownBits_18 : decode cX1_knownBits 18 = .ok (.iload_n 1, 1) := by decide +kernel
theorem dX1_knownBits_19 : decode cX1_knownBits 19 = .ok (.iconst (-1), 1) := by decide +kernel
theorem dX1_knownBits_20 : decode cX1_knownBits 20 = .ok (.if_icmp .ne 5, 3) := by decide +kernel
theorem dX1_knownBits_23 : decode cX1_knownBits 23 = .ok (.iload_n 2, 1) := by decide +kernel
theorem dX1_knownBits_24 : decode cX1_knownBits 24 = .ok (.ireturn, 1) := by decide +kernel
theorem dX1_knownBits_25 : decode cX1_knownBits 25 = .ok (.iload_n 2, 1) := by decide +kernel
theorem dX1_knownBits_26 : decode cX1_knownBits 26 = .ok (.iload_n 1, 1) := by decide +kernel
theorem dX1_knownBits_27 : decode cX1_knownBits 27 = .ok (.invokestatic 194, 3) := by decide +kernel
theorem dX1_knownBits_30 : decode cX1_knownBits 30 = .ok (.invokestatic 219, 3) := by decide +kernel
theorem dX1_knownBits_33 : decode cX1_knownBits 33 = .ok (.ior, 1) := by decide +kernel
theorem dX1_knownBits_34 : decode cX1_knownBits 34 = .ok (.istore_n 2, 1) := by decide +kernel
theorem dX1_knownBits_35 : decode cX1_knownBits 35 = .ok (.aload_n 0, 1) := by decide +kernel
theorem dX1_knownBits_36 : decode cX1_knownBits 36 = .ok (.iload_n 1, 1) := by decide +kernel
theorem dX1_knownBits_37 : decode cX1_knownBits 37 = .ok (.invokevirtual 135, 3) := by decide +kernel
theorem dX1_knownBits_40 : decode cX1_knownBits 40 = .ok (.ifCond .eq 9, 3) := by decide +kernel
theorem dX1_knownBits_43 : decode cX1_knownBits 43 = .ok (.iload_n 2, 1) := by decide +kernel
theorem dX1_knownBits_44 : decode cX1_knownBits 44 = .ok (.sipush 255, 3) := by decide +kernel
theorem dX1_knownBits_47 : decode cX1_knownBits 47 = .ok (.ior, 1) := by decide +kernel
theorem dX1_knownBits_48 : decode cX1_knownBits 48 = .ok (.ireturn, 1) := by decide +kernel
theorem dX1_knownBits_49 : decode cX1_knownBits 49 = .ok (.iload_n 1, 1) := by decide +kernel
theorem dX1_knownBits_50 : decode cX1_knownBits 50 = .ok (.aload_n 0, 1) := by decide +kernel
theorem dX1_knownBits_51 : decode cX1_knownBits 51 = .ok (.getfield 53, 3) := by decide +kernel
theorem dX1_knownBits_54 : decode cX1_knownBits 54 = .ok (.if_icmp .ne 12, 3) := by decide +kernel
theorem dX1_knownBits_57 : decode cX1_knownBits 57 = .ok (.iload_n 2, 1) := by decide +kernel
theorem dX1_knownBits_58 : decode cX1_knownBits 58 = .ok (.aload_n 0, 1) := by decide +kernel
theorem dX1_knownBits_59 : decode cX1_knownBits 59 = .ok (.getfield 66, 3) := by decide +kernel
theorem dX1_knownBits_62 : decode cX1_knownBits 62 = .ok (.ior, 1) := by decide +kernel
theorem dX1_knownBits_63 : decode cX1_knownBits 63 = .ok (.goto 4, 3) := by decide +kernel
theorem dX1_knownBits_66 : decode cX1_knownBits 66 = .ok (.iload_n 2, 1) := by decide +kernel
theorem dX1_knownBits_67 : decode cX1_knownBits 67 = .ok (.ireturn, 1) := by decide +kernel
end
section
theorem dX2_init_0 : decode cX2_init 0 = .ok (.aload_n 0, 1) := by decide +kernel
theorem dX2_init_1 : decode cX2_init 1 = .ok (.invokespecial 1, 3) := by decide +kernel
theorem dX2_init_4 : decode cX2_init 4 = .ok (.aload_n 0, 1) := by decide +kernel
theorem dX2_init_5 : decode cX2_init 5 = .ok (.sipush 16384, 3) := by decide +kernel
theorem dX2_init_8 : decode cX2_init 8 = .ok (.newarray .boolean, 2) := by decide +kernel
theorem dX2_init_10 : decode cX2_init 10 = .ok (.putfield 7, 3) := by decide +kernel
theorem dX2_init_13 : decode cX2_init 13 = .ok (.aload_n 0, 1) := by decide +kernel
theorem dX2_init_14 : decode cX2_init 14 = .ok (.bipush 8, 2) := by decide +kernel
theorem dX2_init_16 : decode cX2_init 16 = .ok (.newarray .int, 2) := by decide +kernel
theorem dX2_init_18 : decode cX2_init 18 = .ok (.putfield 13, 3) := by decide +kernel
theorem dX2_init_21 : decode cX2_init 21 = .ok (.aload_n 0, 1) := by decide +kernel
theorem dX2_init_22 : decode cX2_init 22 = .ok (.bipush 8, 2) := by decide +kernel
theorem dX2_init_24 : decode cX2_init 24 = .ok (.newarray .int, 2) := by decide +kernel
theorem dX2_init_26 : decode cX2_init 26 = .ok (.putfield 17, 3) := by decide +kernel
theorem dX2_init_29 : decode cX2_init 29 = .ok (.return_, 1) := by decide +kernel
theorem dX2_thrown_0 : decode cX2_thrown 0 = .ok (.aload_n 0, 1) := by decide +kernel
theorem dX2_thrown_1 : decode cX2_thrown 1 = .ok (.getfield 20, 3) := by decide +kernel
theorem dX2_thrown_4 : decode cX2_thrown 4 = .ok (.ireturn, 1) := by decide +kernel
theorem dX2_in_0 : decode cX2_in 0 = .ok (.iload_n 0, 1) := by decide +kernel
theorem dX2_in_1 : decode cX2_in 1 = .ok (.iload_n 1, 1) := by decide +kernel
theorem dX2_in_2 : decode cX2_in 2 = .ok (.if_icmp .lt 12, 3) := by decide +kernel
theorem dX2_in_5 : decode cX2_in 5 = .ok (.iload_n 0, 1) := by decide +kernel
theorem dX2_in_6 : decode cX2_in 6 = .ok (.iload_n 2, 1) := by decide +kernel
theorem dX2_in_7 : decode cX2_in 7 = .ok (.if_icmp .gt 7, 3) := by decide +kernel
theorem dX2_in_10 : decode cX2_in 10 = .ok (.iconst 1, 1) := by decide +kernel
theorem dX2_in_11 : decode cX2_in 11 = .ok (.goto 4, 3) := by decide +kernel
theorem dX2_in_14 : decode cX2_in 14 = .ok (.iconst 0, 1) := by decide +kernel
theorem dX2_in_15 : decode cX2_in 15 = .ok (.ireturn, 1) := by decide +kernel
theorem dX2_bits_0 : decode cX2_bits 0 = .ok (.iconst 0, 1) := by decide +kernel
theorem dX2_bits_1 : decode cX2_bits 1 = .ok (.istore_n 1, 1) := by decide +kernel
theorem dX2_bits_2 : decode cX2_bits 2 = .ok (.iconst 0, 1) := by decide +kernel
theorem dX2_bits_3 : decode cX2_bits 3 = .ok (.istore_n 2, 1) := by decide +kernel
theorem dX2_bits_4 : decode cX2_bits 4 = .ok (.iload_n 2, 1) := by decide +kernel
theorem dX2_bits_5 : decode cX2_bits 5 = .ok (.bipush 8, 2) := by decide +kernel
theorem dX2_bits_7 : decode cX2_bits 7 = .ok (.if_icmp .ge 17, 3) := by decide +kernel
theorem dX2_bits_10 : decode cX2_bits 10 = .ok (.iload_n 1, 1) := by decide +kernel
theorem dX2_bits_11 : decode cX2_bits 11 = .ok (.iload_n 0, 1) := by decide +kernel
theorem dX2_bits_12 : decode cX2_bits 12 = .ok (.iload_n 2, 1) := by decide +kernel
theorem dX2_bits_13 : decode cX2_bits 13 = .ok (.ishr, 1) := by decide +kernel
theorem dX2_bits_14 : decode cX2_bits 14 = .ok (.iconst 1, 1) := by decide +kernel
theorem dX2_bits_15 : decode cX2_bits 15 = .ok (.iand, 1) := by decide +kernel
theorem dX2_bits_16 : decode cX2_bits 16 = .ok (.iadd, 1) := by decide +kernel
theorem dX2_bits_17 : decode cX2_bits 17 = .ok (.istore_n 1, 1) := by decide +kernel
theorem dX2_bits_18 : decode cX2_bits 18 = .ok (.iinc 2 1, 3) := by decide +kernel
theorem dX2_bits_21 : decode cX2_bits 21 = .ok (.goto (-17), 3) := by decide +kernel
theorem dX2_bits_24 : decode cX2_bits 24 = .ok (.iload_n 1, 1) := by decide +kernel
theorem dX2_bits_25 : decode cX2_bits 25 = .ok (.ireturn, 1) := by decide +kernel
theorem dX2_has_0 : decode cX2_has 0 = .ok (.iload_n 0, 1) := by decide +kernel
theorem dX2_has_1 : decode cX2_has 1 = .ok (.iload_n 1, 1) := by decide +kernel
theorem dX2_has_2 : decode cX2_has 2 = .ok (.ishr, 1) := by decide +kernel
theorem dX2_has_3 : decode cX2_has 3 = .ok (.iconst 1, 1) := by decide +kernel
theorem dX2_has_4 : decode cX2_has 4 = .ok (.iand, 1) := by decide +kernel
theorem dX2_has_5 : decode cX2_has 5 = .ok (.iconst 1, 1) := by decide +kernel
theorem dX2_has_6 : decode cX2_has 6 = .ok (.if_icmp .ne 7, 3) := by decide +kernel
theorem dX2_has_9 : decode cX2_has 9 = .ok (.iconst 1, 1) := by decide +kernel
theorem dX2_has_10 : decode cX2_has 10 = .ok (.goto 4, 3) := by decide +kernel
theorem dX2_has_13 : decode cX2_has 13 = .ok (.iconst 0, 1) := by decide +kernel
theorem dX2_has_14 : decode cX2_has 14 = .ok (.ireturn, 1) := by decide +kernel
set_option maxRecDepth 20000 in
theorem ggX2_isPlayer_X2_in : GoodIn wsX2_isPlayer wsX2_in := goodIn_r _ [5] (by decide +kernel) (by decide +kernel)
set_option maxRecDepth 20000 in
theorem gX2_isPlayer_X2_in : GoodIn wsX2_isPlayer (va_wsS RX2 27 yX2_in wsX2_in) := goodIn_app (goodIn_of _ (by decide +kernel)) ggX2_isPlayer_X2_in
theorem dX2_isPlayer_0 : decode cX2_isPlayer 0 = .ok (.iload_n 1, 1) := by decide +kernel
theorem dX2_isPlayer_1 : decode cX2_isPlayer 1 = .ok (.iconst 0, 1) := by decide +kernel
theorem dX2_isPlayer_2 : decode cX2_isPlayer 2 = .ok (.aload_n 0, 1) := by decide +kernel
theorem dX2_isPlayer_3 : decode cX2_isPlayer 3 = .ok (.getfield 24, 3) := by decide +kernel
theorem dX2_isPlayer_6 : decode cX2_isPlayer 6 = .ok (.iconst 1, 1) := by decide +kernel
theorem dX2_isPlayer_7 : decode cX2_isPlayer 7 = .ok (.isub, 1) := by decide +kernel
theorem dX2_isPlayer_8 : decode cX2_isPlayer 8 = .ok (.invokestatic 27, 3) := by decide +kernel
theorem dX2_isPlayer_11 : decode cX2_isPlayer 11 = .ok (.ireturn, 1) := by decide +kernel
set_option maxRecDepth 20000 in
theorem ggX2_isViewer_X2_isPlayer : GoodIn wsX2_isViewer wsX2_isPlayer := goodIn_r _ [5, 6, 7, 8, 4, 9, 10, 11, 12, 13, 14, 15, 16, 17, 18, 19, 20, 21, 22, 23, 24, 25] (by decide +kernel) (by decide +kernel)
set_option maxRecDepth 20000 in
theorem gX2_isViewer_X2_isPlayer : GoodIn wsX2_isViewer (wsV RX2 31 RX2 yX2_isPlayer wsX2_isPlayer) := goodIn_app (goodIn_of _ (by decide +kernel)) ggX2_isViewer_X2_isPlayer
theorem dX2_isViewer_0 : decode cX2_isViewer 0 = .ok (.iload_n 1, 1) := by decide +kernel
theorem dX2_isViewer_1 : decode cX2_isViewer 1 = .ok (.iconst (-1), 1) := by decide +kernel
theorem dX2_isViewer_2 : decode cX2_isViewer 2 = .ok (.if_icmp .eq 11, 3) := by decide +kernel
theorem dX2_isViewer_5 : decode cX2_isViewer 5 = .ok (.aload_n 0, 1) := by decide +kernel
theorem dX2_isViewer_6 : decode cX2_isViewer 6 = .ok (.iload_n 1, 1) := by decide +kernel
theorem dX2_isViewer_7 : decode cX2_isViewer 7 = .ok (.invokevirtual 31, 3) := by decide +kernel
theorem dX2_isViewer_10 : decode cX2_isViewer 10 = .ok (.ifCond .eq 7, 3) := by decide +kernel
theorem dX2_isViewer_13 : decode cX2_isViewer 13 = .ok (.iconst 1, 1) := by decide +kernel
theorem dX2_isViewer_14 : decode cX2_isViewer 14 = .ok (.goto 4, 3) := by decide +kernel
theorem dX2_isViewer_17 : decode cX2_isViewer 17 = .ok (.iconst 0, 1) := by decide +kernel
theorem dX2_isViewer_18 : decode cX2_isViewer 18 = .ok (.ireturn, 1) := by decide +kernel
set_option maxRecDepth 20000 in
theorem ggX2_isWorld_X2_in : GoodIn wsX2_isWorld wsX2_in := goodIn_r _ [4] (by decide +kernel) (by decide +kernel)
set_option maxRecDepth 20000 in
theorem gX2_isWorld_X2_in : GoodIn wsX2_isWorld (va_wsS RX2 27 yX2_in wsX2_in) := goodIn_app (goodIn_of _ (by decide +kernel)) ggX2_isWorld_X2_in
set_option maxRecDepth 20000 in
theorem ggX2_isWorld_X2_bits : GoodIn wsX2_isWorld wsX2_bits := goodIn_r _ [7] (by decide +kernel) (by decide +kernel)
set_option maxRecDepth 20000 in
theorem gX2_isWorld_X2_bits : GoodIn wsX2_isWorld (va_wsS RX2 35 yX2_bits wsX2_bits) := goodIn_app (goodIn_of _ (by decide +kernel)) ggX2_isWorld_X2_bits
set_option maxRecDepth 20000 in
theorem ggX2_isWorld_X2_has : GoodIn wsX2_isWorld wsX2_has := goodIn_r _ [10] (by decide +kernel) (by decide +kernel)
set_option maxRecDepth 20000 in
theorem gX2_isWorld_X2_has : GoodIn wsX2_isWorld (va_wsS RX2 39 yX2_has wsX2_has) := goodIn_app (goodIn_of _ (by decide +kernel)) ggX2_isWorld_X2_has
theorem dX2_isWorld_0 : decode cX2_isWorld 0 = .ok (.iload_n 2, 1) := by decide +kernel
theorem dX2_isWorld_1 : decode cX2_isWorld 1 = .ok (.iconst 0, 1) := by decide +kernel
theorem dX2_isWorld_2 : decode cX2_isWorld 2 = .ok (.iconst 1, 1) := by decide +kernel
theorem dX2_isWorld_3 : decode cX2_isWorld 3 = .ok (.iload_n 0, 1) := by decide +kernel
theorem dX2_isWorld_4 : decode cX2_isWorld 4 = .ok (.ishl, 1) := by decide +kernel
theorem dX2_isWorld_5 : decode cX2_isWorld 5 = .ok (.iconst 1, 1) := by decide +kernel
theorem dX2_isWorld_6 : decode cX2_isWorld 6 = .ok (.isub, 1) := by decide +kernel
theorem dX2_isWorld_7 : decode cX2_isWorld 7 = .ok (.invokestatic 27, 3) := by decide +kernel
theorem dX2_isWorld_10 : decode cX2_isWorld 10 = .ok (.ifCond .eq 38, 3) := by decide +kernel
theorem dX2_isWorld_13 : decode cX2_isWorld 13 = .ok (.iload_n 2, 1) := by decide +kernel
theorem dX2_isWorld_14 : decode cX2_isWorld 14 = .ok (.invokestatic 35, 3) := by decide +kernel
theorem dX2_isWorld_17 : decode cX2_isWorld 17 = .ok (.iload_n 1, 1) := by decide +kernel
theorem dX2_isWorld_18 : decode cX2_isWorld 18 = .ok (.if_icmp .ne 30, 3) := by decide +kernel
theorem dX2_isWorld_21 : decode cX2_isWorld 21 = .ok (.iload_n 3, 1) := by decide +kernel
theorem dX2_isWorld_22 : decode cX2_isWorld 22 = .ok (.iconst 0, 1) := by decide +kernel
theorem dX2_isWorld_23 : decode cX2_isWorld 23 = .ok (.iload_n 0, 1) := by decide +kernel
theorem dX2_isWorld_24 : decode cX2_isWorld 24 = .ok (.iconst 1, 1) := by decide +kernel
theorem dX2_isWorld_25 : decode cX2_isWorld 25 = .ok (.isub, 1) := by decide +kernel
theorem dX2_isWorld_26 : decode cX2_isWorld 26 = .ok (.invokestatic 27, 3) := by decide +kernel
theorem dX2_isWorld_29 : decode cX2_isWorld 29 = .ok (.ifCond .eq 19, 3) := by decide +kernel
theorem dX2_isWorld_32 : decode cX2_isWorld 32 = .ok (.iload 4, 2) := by decide +kernel
theorem dX2_isWorld_34 : decode cX2_isWorld 34 = .ok (.iconst 0, 1) := by decide +kernel
theorem dX2_isWorld_35 : decode cX2_isWorld 35 = .ok (.iload_n 0, 1) := by decide +kernel
theorem dX2_isWorld_36 : decode cX2_isWorld 36 = .ok (.iconst 1, 1) := by decide +kernel
theorem dX2_isWorld_37 : decode cX2_isWorld 37 = .ok (.isub, 1) := by decide +kernel
theorem dX2_isWorld_38 : decode cX2_isWorld 38 = .ok (.invokestatic 27, 3) := by decide +kernel
theorem dX2_isWorld_41 : decode cX2_isWorld 41 = .ok (.ifCond .eq 7, 3) := by decide +kernel
theorem dX2_isWorld_44 : decode cX2_isWorld 44 = .ok (.iconst 1, 1) := by decide +kernel
theorem dX2_isWorld_45 : decode cX2_isWorld 45 = .ok (.goto 4, 3) := by decide +kernel
theorem dX2_isWorld_48 : decode cX2_isWorld 48 = .ok (.iconst 0, 1) := by decide +kernel
theorem dX2_isWorld_49 : decode cX2_isWorld 49 = .ok (.istore 5, 2) := by decide +kernel
theorem dX2_isWorld_51 : decode cX2_isWorld 51 = .ok (.iload 5, 2) := by decide +kernel
theorem dX2_isWorld_53 : decode cX2_isWorld 53 = .ok (.ifCond .eq 30, 3) := by decide +kernel
theorem dX2_isWorld_56 : decode cX2_isWorld 56 = .ok (.iload_n 3, 1) := by decide +kernel
theorem dX2_isWorld_57 : decode cX2_isWorld 57 = .ok (.iload 4, 2) := by decide +kernel
theorem dX2_isWorld_59 : decode cX2_isWorld 59 = .ok (.if_icmp .eq 24, 3) := by decide +kernel
theorem dX2_isWorld_62 : decode cX2_isWorld 62 = .ok (.iload_n 2, 1) := by decide +kernel
theorem dX2_isWorld_63 : decode cX2_isWorld 63 = .ok (.iload_n 3, 1) := by decide +kernel
theorem dX2_isWorld_64 : decode cX2_isWorld 64 = .ok (.invokestatic 39, 3) := by decide +kernel
theorem dX2_isWorld_67 : decode cX2_isWorld 67 = .ok (.ifCond .ne 16, 3) := by decide +kernel
theorem dX2_isWorld_70 : decode cX2_isWorld 70 = .ok (.iload_n 2, 1) := by decide +kernel
theorem dX2_isWorld_71 : decode cX2_isWorld 71 = .ok (.iload 4, 2) := by decide +kernel
theorem dX2_isWorld_73 : decode cX2_isWorld 73 = .ok (.invokestatic 39, 3) := by decide +kernel
theorem dX2_isWorld_76 : decode cX2_isWorld 76 = .ok (.ifCond .ne 7, 3) := by decide +kernel
theorem dX2_isWorld_79 : decode cX2_isWorld 79 = .ok (.iconst 1, 1) := by decide +kernel
theorem dX2_isWorld_80 : decode cX2_isWorld 80 = .ok (.goto 4, 3) := by decide +kernel
theorem dX2_isWorld_83 : decode cX2_isWorld 83 = .ok (.iconst 0, 1) := by decide +kernel
theorem dX2_isWorld_84 : decode cX2_isWorld 84 = .ok (.ireturn, 1) := by decide +kernel
set_option maxRecDepth 20000 in
theorem ggX2_roleIn_X2_has : GoodIn wsX2_roleIn wsX2_has := goodIn_r _ [4] (by decide +kernel) (by decide +kernel)
set_option maxRecDepth 20000 in
theorem gX2_roleIn_X2_has : GoodIn wsX2_roleIn (va_wsS RX2 39 yX2_has wsX2_has) := goodIn_app (goodIn_of _ (by decide +kernel)) ggX2_roleIn_X2_has
theorem dX2_roleIn_0 : decode cX2_roleIn 0 = .ok (.iload_n 0, 1) := by decide +kernel
theorem dX2_roleIn_1 : decode cX2_roleIn 1 = .ok (.bipush 64, 2) := by decide +kernel
theorem dX2_roleIn_3 : decode cX2_roleIn 3 = .ok (.idiv, 1) := by decide +kernel
theorem dX2_roleIn_4 : decode cX2_roleIn 4 = .ok (.iload_n 1, 1) := by decide +kernel
theorem dX2_roleIn_5 : decode cX2_roleIn 5 = .ok (.invokestatic 39, 3) := by decide +kernel
theorem dX2_roleIn_8 : decode cX2_roleIn 8 = .ok (.ifCond .eq 7, 3) := by decide +kernel
theorem dX2_roleIn_11 : decode cX2_roleIn 11 = .ok (.iconst 1, 1) := by decide +kernel
theorem dX2_roleIn_12 : decode cX2_roleIn 12 = .ok (.goto 31, 3) := by decide +kernel
theorem dX2_roleIn_15 : decode cX2_roleIn 15 = .ok (.iload_n 0, 1) := by decide +kernel
theorem dX2_roleIn_16 : decode cX2_roleIn 16 = .ok (.bipush 8, 2) := by decide +kernel
theorem dX2_roleIn_18 : decode cX2_roleIn 18 = .ok (.idiv, 1) := by decide +kernel
theorem dX2_roleIn_19 : decode cX2_roleIn 19 = .ok (.bipush 8, 2) := by decide +kernel
theorem dX2_roleIn_21 : decode cX2_roleIn 21 = .ok (.irem, 1) := by decide +kernel
theorem dX2_roleIn_22 : decode cX2_roleIn 22 = .ok (.iload_n 1, 1) := by decide +kernel
theorem dX2_roleIn_23 : decode cX2_roleIn 23 = .ok (.if_icmp .ne 7, 3) := by decide +kernel
theorem dX2_roleIn_26 : decode cX2_roleIn 26 = .ok (.iconst 2, 1) := by decide +kernel
theorem dX2_roleIn_27 : decode cX2_roleIn 27 = .ok (.goto 16, 3) := by decide +kernel
theorem dX2_roleIn_30 : decode cX2_roleIn 30 = .ok (.iload_n 0, 1) := by decide +kernel
theorem dX2_roleIn_31 : decode cX2_roleIn 31 = .ok (.bipush 8, 2) := by decide +kernel
theorem dX2_roleIn_33 : decode cX2_roleIn 33 = .ok (.irem, 1) := by decide +kernel
theorem dX2_roleIn_34 : decode cX2_roleIn 34 = .ok (.iload_n 1, 1) := by decide +kernel
theorem dX2_roleIn_35 : decode cX2_roleIn 35 = .ok (.if_icmp .ne 7, 3) := by decide +kernel
theorem dX2_roleIn_38 : decode cX2_roleIn 38 = .ok (.iconst 3, 1) := by decide +kernel
theorem dX2_roleIn_39 : decode cX2_roleIn 39 = .ok (.goto 4, 3) := by decide +kernel
theorem dX2_roleIn_42 : decode cX2_roleIn 42 = .ok (.iconst 0, 1) := by decide +kernel
theorem dX2_roleIn_43 : decode cX2_roleIn 43 = .ok (.ireturn, 1) := by decide +kernel
theorem dX2_truth_0 : decode cX2_truth 0 = .ok (.bipush 64, 2) := by decide +kernel
theorem dX2_truth_2 : decode cX2_truth 2 = .ok (.aload_n 0, 1) := by decide +kernel
theorem dX2_truth_3 : decode cX2_truth 3 = .ok (.getfield 43, 3) := by decide +kernel
theorem dX2_truth_6 : decode cX2_truth 6 = .ok (.imul, 1) := by decide +kernel
theorem dX2_truth_7 : decode cX2_truth 7 = .ok (.bipush 8, 2) := by decide +kernel
theorem dX2_truth_9 : decode cX2_truth 9 = .ok (.aload_n 0, 1) := by decide +kernel
theorem dX2_truth_10 : decode cX2_truth 10 = .ok (.getfield 46, 3) := by decide +kernel
theorem dX2_truth_13 : decode cX2_truth 13 = .ok (.imul, 1) := by decide +kernel
theorem dX2_truth_14 : decode cX2_truth 14 = .ok (.iadd, 1) := by decide +kernel
theorem dX2_truth_15 : decode cX2_truth 15 = .ok (.aload_n 0, 1) := by decide +kernel
theorem dX2_truth_16 : decode cX2_truth 16 = .ok (.getfield 49, 3) := by decide +kernel
theorem dX2_truth_19 : decode cX2_truth 19 = .ok (.iadd, 1) := by decide +kernel
theorem dX2_truth_20 : decode cX2_truth 20 = .ok (.ireturn, 1) := by decide +kernel
theorem dX2_manyOpen_0 : decode cX2_manyOpen 0 = .ok (.iconst 0, 1) := by decide +kernel
theorem dX2_manyOpen_1 : decode cX2_manyOpen 1 = .ok (.istore_n 1, 1) := by decide +kernel
theorem dX2_manyOpen_2 : decode cX2_manyOpen 2 = .ok (.iconst 0, 1) := by decide +kernel
theorem dX2_manyOpen_3 : decode cX2_manyOpen 3 = .ok (.istore_n 2, 1) := by decide +kernel
theorem dX2_manyOpen_4 : decode cX2_manyOpen 4 = .ok (.iload_n 2, 1) := by decide +kernel
theorem dX2_manyOpen_5 : decode cX2_manyOpen 5 = .ok (.sipush 16384, 3) := by decide +kernel
theorem dX2_manyOpen_8 : decode cX2_manyOpen 8 = .ok (.if_icmp .ge 26, 3) := by decide +kernel
theorem dX2_manyOpen_11 : decode cX2_manyOpen 11 = .ok (.iload_n 1, 1) := by decide +kernel
theorem dX2_manyOpen_12 : decode cX2_manyOpen 12 = .ok (.aload_n 0, 1) := by decide +kernel
theorem dX2_manyOpen_13 : decode cX2_manyOpen 13 = .ok (.getfield 7, 3) := by decide +kernel
theorem dX2_manyOpen_16 : decode cX2_manyOpen 16 = .ok (.iload_n 2, 1) := by decide +kernel
theorem dX2_manyOpen_17 : decode cX2_manyOpen 17 = .ok (.baload, 1) := by decide +kernel
theorem dX2_manyOpen_18 : decode cX2_manyOpen 18 = .ok (.ifCond .eq 7, 3) := by decide +kernel
theorem dX2_manyOpen_21 : decode cX2_manyOpen 21 = .ok (.iconst 1, 1) := by decide +kernel
theorem dX2_manyOpen_22 : decode cX2_manyOpen 22 = .ok (.goto 4, 3) := by decide +kernel
theorem dX2_manyOpen_25 : decode cX2_manyOpen 25 = .ok (.iconst 0, 1) := by decide +kernel
theorem dX2_manyOpen_26 : decode cX2_manyOpen 26 = .ok (.iadd, 1) := by decide +kernel
theorem dX2_manyOpen_27 : decode cX2_manyOpen 27 = .ok (.istore_n 1, 1) := by decide +kernel
theorem dX2_manyOpen_28 : decode cX2_manyOpen 28 = .ok (.iinc 2 1, 3) := by decide +kernel
theorem dX2_manyOpen_31 : decode cX2_manyOpen 31 = .ok (.goto (-27), 3) := by decide +kernel
theorem dX2_manyOpen_34 : decode cX2_manyOpen 34 = .ok (.iload_n 1, 1) := by decide +kernel
theorem dX2_manyOpen_35 : decode cX2_manyOpen 35 = .ok (.ireturn, 1) := by decide +kernel
set_option maxRecDepth 20000 in
theorem ggX2_isFor_X2_truth : GoodIn wsX2_isFor wsX2_truth := goodIn_r _ [8, 2, 9, 10, 17, 18, 19, 20, 21, 22, 23, 24, 25, 26, 27, 28, 29, 30, 31, 32] (by decide +kernel) (by decide +kernel)
set_option maxRecDepth 20000 in
theorem gX2_isFor_X2_truth : GoodIn wsX2_isFor (wsV RX2 52 RX2 yX2_truth wsX2_truth) := goodIn_app (goodIn_of _ (by decide +kernel)) ggX2_isFor_X2_truth
set_option maxRecDepth 20000 in
theorem ggX2_isFor_X2_roleIn : GoodIn wsX2_isFor wsX2_roleIn := goodIn_r _ [13, 14, 15, 7, 16] (by decide +kernel) (by decide +kernel)
set_option maxRecDepth 20000 in
theorem gX2_isFor_X2_roleIn : GoodIn wsX2_isFor (va_wsS RX2 56 yX2_roleIn wsX2_roleIn) := goodIn_app (goodIn_of _ (by decide +kernel)) ggX2_isFor_X2_roleIn
theorem dX2_isFor_0 : decode cX2_isFor 0 = .ok (.aload_n 0, 1) := by decide +kernel
theorem dX2_isFor_1 : decode cX2_isFor 1 = .ok (.getfield 7, 3) := by decide +kernel
theorem dX2_isFor_4 : decode cX2_isFor 4 = .ok (.iload_n 2, 1) := by decide +kernel
theorem dX2_isFor_5 : decode cX2_isFor 5 = .ok (.baload, 1) := by decide +kernel
theorem dX2_isFor_6 : decode cX2_isFor 6 = .ok (.ifCond .eq 8, 3) := by decide +kernel
theorem dX2_isFor_9 : decode cX2_isFor 9 = .ok (.iload_n 1, 1) := by decide +kernel
theorem dX2_isFor_10 : decode cX2_isFor 10 = .ok (.iconst (-1), 1) := by decide +kernel
theorem dX2_isFor_11 : decode cX2_isFor 11 = .ok (.if_icmp .ne 10, 3) := by decide +kernel
theorem dX2_isFor_14 : decode cX2_isFor 14 = .ok (.aload_n 0, 1) := by decide +kernel
theorem dX2_isFor_15 : decode cX2_isFor 15 = .ok (.getfield 7, 3) := by decide +kernel
theorem dX2_isFor_18 : decode cX2_isFor 18 = .ok (.iload_n 2, 1) := by decide +kernel
theorem dX2_isFor_19 : decode cX2_isFor 19 = .ok (.baload, 1) := by decide +kernel
theorem dX2_isFor_20 : decode cX2_isFor 20 = .ok (.ireturn, 1) := by decide +kernel
theorem dX2_isFor_21 : decode cX2_isFor 21 = .ok (.aload_n 0, 1) := by decide +kernel
theorem dX2_isFor_22 : decode cX2_isFor 22 = .ok (.invokevirtual 52, 3) := by decide +kernel
theorem dX2_isFor_25 : decode cX2_isFor 25 = .ok (.iload_n 1, 1) := by decide +kernel
theorem dX2_isFor_26 : decode cX2_isFor 26 = .ok (.invokestatic 56, 3) := by decide +kernel
theorem dX2_isFor_29 : decode cX2_isFor 29 = .ok (.istore_n 3, 1) := by decide +kernel
theorem dX2_isFor_30 : decode cX2_isFor 30 = .ok (.iload_n 2, 1) := by decide +kernel
theorem dX2_isFor_31 : decode cX2_isFor 31 = .ok (.iload_n 1, 1) := by decide +kernel
theorem dX2_isFor_32 : decode cX2_isFor 32 = .ok (.invokestatic 56, 3) := by decide +kernel
theorem dX2_isFor_35 : decode cX2_isFor 35 = .ok (.iload_n 3, 1) := by decide +kernel
theorem dX2_isFor_36 : decode cX2_isFor 36 = .ok (.if_icmp .ne 23, 3) := by decide +kernel
theorem dX2_isFor_39 : decode cX2_isFor 39 = .ok (.iload_n 3, 1) := by decide +kernel
theorem dX2_isFor_40 : decode cX2_isFor 40 = .ok (.iconst 1, 1) := by decide +kernel
theorem dX2_isFor_41 : decode cX2_isFor 41 = .ok (.if_icmp .ne 14, 3) := by decide +kernel
theorem dX2_isFor_44 : decode cX2_isFor 44 = .ok (.iload_n 2, 1) := by decide +kernel
theorem dX2_isFor_45 : decode cX2_isFor 45 = .ok (.bipush 64, 2) := by decide +kernel
theorem dX2_isFor_47 : decode cX2_isFor 47 = .ok (.idiv, 1) := by decide +kernel
theorem dX2_isFor_48 : decode cX2_isFor 48 = .ok (.aload_n 0, 1) := by decide +kernel
theorem dX2_isFor_49 : decode cX2_isFor 49 = .ok (.getfield 43, 3) := by decide +kernel
theorem dX2_isFor_52 : decode cX2_isFor 52 = .ok (.if_icmp .ne 7, 3) := by decide +kernel
theorem dX2_isFor_55 : decode cX2_isFor 55 = .ok (.iconst 1, 1) := by decide +kernel
theorem dX2_isFor_56 : decode cX2_isFor 56 = .ok (.goto 4, 3) := by decide +kernel
theorem dX2_isFor_59 : decode cX2_isFor 59 = .ok (.iconst 0, 1) := by decide +kernel
theorem dX2_isFor_60 : decode cX2_isFor 60 = .ok (.istore 4, 2) := by decide +kernel
theorem dX2_isFor_62 : decode cX2_isFor 62 = .ok (.iload 4, 2) := by decide +kernel
theorem dX2_isFor_64 : decode cX2_isFor 64 = .ok (.ifCond .eq 33, 3) := by decide +kernel
theorem dX2_isFor_67 : decode cX2_isFor 67 = .ok (.iload_n 3, 1) := by decide +kernel
theorem dX2_isFor_68 : decode cX2_isFor 68 = .ok (.iconst 2, 1) := by decide +kernel
theorem dX2_isFor_69 : decode cX2_isFor 69 = .ok (.if_icmp .ne 24, 3) := by decide +kernel
theorem dX2_isFor_72 : decode cX2_isFor 72 = .ok (.iload_n 2, 1) := by decide +kernel
theorem dX2_isFor_73 : decode cX2_isFor 73 = .ok (.bipush 64, 2) := by decide +kernel
theorem dX2_isFor_75 : decode cX2_isFor 75 = .ok (.idiv, 1) := by decide +kernel
theorem dX2_isFor_76 : decode cX2_isFor 76 = .ok (.aload_n 0, 1) := by decide +kernel
theorem dX2_isFor_77 : decode cX2_isFor 77 = .ok (.getfield 60, 3) := by decide +kernel
theorem dX2_isFor_80 : decode cX2_isFor 80 = .ok (.iand, 1) := by decide +kernel
theorem dX2_isFor_81 : decode cX2_isFor 81 = .ok (.aload_n 0, 1) := by decide +kernel
theorem dX2_isFor_82 : decode cX2_isFor 82 = .ok (.getfield 43, 3) := by decide +kernel
theorem dX2_isFor_85 : decode cX2_isFor 85 = .ok (.aload_n 0, 1) := by decide +kernel
theorem dX2_isFor_86 : decode cX2_isFor 86 = .ok (.getfield 60, 3) := by decide +kernel
theorem dX2_isFor_89 : decode cX2_isFor 89 = .ok (.iand, 1) := by decide +kernel
theorem dX2_isFor_90 : decode cX2_isFor 90 = .ok (.if_icmp .ne 7, 3) := by decide +kernel
theorem dX2_isFor_93 : decode cX2_isFor 93 = .ok (.iconst 1, 1) := by decide +kernel
theorem dX2_isFor_94 : decode cX2_isFor 94 = .ok (.goto 4, 3) := by decide +kernel
theorem dX2_isFor_97 : decode cX2_isFor 97 = .ok (.iconst 0, 1) := by decide +kernel
theorem dX2_isFor_98 : decode cX2_isFor 98 = .ok (.ireturn, 1) := by decide +kernel
set_option maxRecDepth 20000 in
theorem ggX2_start_X2_bits : GoodIn wsX2_start wsX2_bits := goodIn_r _ [15] (by decide +kernel) (by decide +kernel)
set_option maxRecDepth 20000 in
theorem gX2_start_X2_bits : GoodIn wsX2_start (va_wsS RX2 35 yX2_bits wsX2_bits) := goodIn_app (goodIn_of _ (by decide +kernel)) ggX2_start_X2_bits
set_option maxRecDepth 20000 in
theorem ggX2_start_X2_in : GoodIn wsX2_start wsX2_in := goodIn_r _ [18] (by decide +kernel) (by decide +kernel)
set_option maxRecDepth 20000 in
theorem gX2_start_X2_in : GoodIn wsX2_start (va_wsS RX2 27 yX2_in wsX2_in) := goodIn_app (goodIn_of _ (by decide +kernel)) ggX2_start_X2_in
set_option maxRecDepth 20000 in
theorem ggX2_start_X2_isWorld : GoodIn wsX2_start wsX2_isWorld := goodIn_r _ [21, 16, 17, 14, 18, 12, 13, 15, 22, 23, 24] (by decide +kernel) (by decide +kernel)
set_option maxRecDepth 20000 in
theorem gX2_start_X2_isWorld : GoodIn wsX2_start (va_wsS RX2 63 yX2_isWorld wsX2_isWorld) := goodIn_app (goodIn_of _ (by decide +kernel)) ggX2_start_X2_isWorld
set_option maxRecDepth 20000 in
theorem ggX2_start_X2_forgets : GoodIn wsX2_start wsX2_forgets := goodIn_r _ [28, 29, 30, 31, 32, 37, 38, 39, 40, 41, 42, 43, 44, 45, 46, 47, 48, 49, 50, 51, 52] (by decide +kernel) (by decide +kernel)
set_option maxRecDepth 20000 in
theorem gX2_start_X2_forgets : GoodIn wsX2_start (wsV RX2 79 RX2 yX2_forgets wsX2_forgets) := goodIn_app (goodIn_of _ (by decide +kernel)) ggX2_start_X2_forgets
set_option maxRecDepth 20000 in
theorem ggX2_start_X2_manyOpen : GoodIn wsX2_start wsX2_manyOpen := goodIn_r _ [36, 6, 37, 38, 39, 40, 41, 42, 43, 44, 45, 46, 47, 48, 49, 50, 51, 52] (by decide +kernel) (by decide +kernel)
set_option maxRecDepth 20000 in
theorem gX2_start_X2_manyOpen : GoodIn wsX2_start (wsV RX2 82 RX2 yX2_manyOpen wsX2_manyOpen) := goodIn_app (goodIn_of _ (by decide +kernel)) ggX2_start_X2_manyOpen
theorem dX2_start_0 : decode cX2_start 0 = .ok (.iload_n 2, 1) := by decide +kernel
theorem dX2_start_1 : decode cX2_start 1 = .ok (.ifCond .ge 7, 3) := by decide +kernel
theorem dX2_start_4 : decode cX2_start 4 = .ok (.iconst 0, 1) := by decide +kernel
theorem dX2_start_5 : decode cX2_start 5 = .ok (.goto 7, 3) := by decide +kernel
theorem dX2_start_8 : decode cX2_start 8 = .ok (.iload_n 2, 1) := by decide +kernel
theorem dX2_start_9 : decode cX2_start 9 = .ok (.invokestatic 35, 3) := by decide +kernel
theorem dX2_start_12 : decode cX2_start 12 = .ok (.istore 5, 2) := by decide +kernel
theorem dX2_start_14 : decode cX2_start 14 = .ok (.iload_n 1, 1) := by decide +kernel
theorem dX2_start_15 : decode cX2_start 15 = .ok (.iconst 4, 1) := by decide +kernel
theorem dX2_start_16 : decode cX2_start 16 = .ok (.bipush 8, 2) := by decide +kernel
theorem dX2_start_18 : decode cX2_start 18 = .ok (.invokestatic 27, 3) := by decide +kernel
theorem dX2_start_21 : decode cX2_start 21 = .ok (.ifCond .eq 33, 3) := by decide +kernel
theorem dX2_start_24 : decode cX2_start 24 = .ok (.iload 5, 2) := by decide +kernel
theorem dX2_start_26 : decode cX2_start 26 = .ok (.ifCond .le 28, 3) := by decide +kernel
theorem dX2_start_29 : decode cX2_start 29 = .ok (.iconst 2, 1) := by decide +kernel
theorem dX2_start_30 : decode cX2_start 30 = .ok (.iload 5, 2) := by decide +kernel
theorem dX2_start_32 : decode cX2_start 32 = .ok (.imul, 1) := by decide +kernel
theorem dX2_start_33 : decode cX2_start 33 = .ok (.iload_n 1, 1) := by decide +kernel
theorem dX2_start_34 : decode cX2_start 34 = .ok (.if_icmp .ge 20, 3) := by decide +kernel
theorem dX2_start_37 : decode cX2_start 37 = .ok (.iload_n 1, 1) := by decide +kernel
theorem dX2_start_38 : decode cX2_start 38 = .ok (.iload 5, 2) := by decide +kernel
theorem dX2_start_40 : decode cX2_start 40 = .ok (.iload_n 2, 1) := by decide +kernel
theorem dX2_start_41 : decode cX2_start 41 = .ok (.iload_n 3, 1) := by decide +kernel
theorem dX2_start_42 : decode cX2_start 42 = .ok (.iload 4, 2) := by decide +kernel
theorem dX2_start_44 : decode cX2_start 44 = .ok (.invokestatic 63, 3) := by decide +kernel
theorem dX2_start_47 : decode cX2_start 47 = .ok (.ifCond .eq 7, 3) := by decide +kernel
theorem dX2_start_50 : decode cX2_start 50 = .ok (.iconst 1, 1) := by decide +kernel
theorem dX2_start_51 : decode cX2_start 51 = .ok (.goto 4, 3) := by decide +kernel
theorem dX2_start_54 : decode cX2_start 54 = .ok (.iconst 0, 1) := by decide +kernel
theorem dX2_start_55 : decode cX2_start 55 = .ok (.istore 6, 2) := by decide +kernel
theorem dX2_start_57 : decode cX2_start 57 = .ok (.aload_n 0, 1) := by decide +kernel
theorem dX2_start_58 : decode cX2_start 58 = .ok (.iload 6, 2) := by decide +kernel
theorem dX2_start_60 : decode cX2_start 60 = .ok (.ifCond .eq 7, 3) := by decide +kernel
theorem dX2_start_63 : decode cX2_start 63 = .ok (.iconst 0, 1) := by decide +kernel
theorem dX2_start_64 : decode cX2_start 64 = .ok (.goto 4, 3) := by decide +kernel
theorem dX2_start_67 : decode cX2_start 67 = .ok (.iconst 1, 1) := by decide +kernel
theorem dX2_start_68 : decode cX2_start 68 = .ok (.putfield 20, 3) := by decide +kernel
theorem dX2_start_71 : decode cX2_start 71 = .ok (.aload_n 0, 1) := by decide +kernel
theorem dX2_start_72 : decode cX2_start 72 = .ok (.getfield 20, 3) := by decide +kernel
theorem dX2_start_75 : decode cX2_start 75 = .ok (.ifCond .le 5, 3) := by decide +kernel
theorem dX2_start_78 : decode cX2_start 78 = .ok (.iconst 0, 1) := by decide +kernel
theorem dX2_start_79 : decode cX2_start 79 = .ok (.ireturn, 1) := by decide +kernel
theorem dX2_start_80 : decode cX2_start 80 = .ok (.aload_n 0, 1) := by decide +kernel
theorem dX2_start_81 : decode cX2_start 81 = .ok (.iload_n 1, 1) := by decide +kernel
theorem dX2_start_82 : decode cX2_start 82 = .ok (.putfield 24, 3) := by decide +kernel
theorem dX2_start_85 : decode cX2_start 85 = .ok (.aload_n 0, 1) := by decide +kernel
theorem dX2_start_86 : decode cX2_start 86 = .ok (.iload_n 2, 1) := by decide +kernel
theorem dX2_start_87 : decode cX2_start 87 = .ok (.putfield 43, 3) := by decide +kernel
theorem dX2_start_90 : decode cX2_start 90 = .ok (.aload_n 0, 1) := by decide +kernel
theorem dX2_start_91 : decode cX2_start 91 = .ok (.iload_n 3, 1) := by decide +kernel
theorem dX2_start_92 : decode cX2_start 92 = .ok (.putfield 46, 3) := by decide +kernel
theorem dX2_start_95 : decode cX2_start 95 = .ok (.aload_n 0, 1) := by decide +kernel
theorem dX2_start_96 : decode cX2_start 96 = .ok (.iload 4, 2) := by decide +kernel
theorem dX2_start_98 : decode cX2_start 98 = .ok (.putfield 49, 3) := by decide +kernel
theorem dX2_start_101 : decode cX2_start 101 = .ok (.iconst 0, 1) := by decide +kernel
theorem dX2_start_102 : decode cX2_start 102 = .ok (.istore 7, 2) := by decide +kernel
theorem dX2_start_104 : decode cX2_start 104 = .ok (.iload 7, 2) := by decide +kernel
theorem dX2_start_106 : decode cX2_start 106 = .ok (.sipush 16384, 3) := by decide +kernel
theorem dX2_start_109 : decode cX2_start 109 = .ok (.if_icmp .ge 40, 3) := by decide +kernel
theorem dX2_start_112 : decode cX2_start 112 = .ok (.aload_n 0, 1) := by decide +kernel
theorem dX2_start_113 : decode cX2_start 113 = .ok (.getfield 7, 3) := by decide +kernel
theorem dX2_start_116 : decode cX2_start 116 = .ok (.iload 7, 2) := by decide +kernel
theorem dX2_start_118 : decode cX2_start 118 = .ok (.iload_n 1, 1) := by decide +kernel
theorem dX2_start_119 : decode cX2_start 119 = .ok (.iload 5, 2) := by decide +kernel
theorem dX2_start_121 : decode cX2_start 121 = .ok (.iload 7, 2) := by decide +kernel
theorem dX2_start_123 : decode cX2_start 123 = .ok (.bipush 64, 2) := by decide +kernel
theorem dX2_start_125 : decode cX2_start 125 = .ok (.idiv, 1) := by decide +kernel
theorem dX2_start_126 : decode cX2_start 126 = .ok (.iload 7, 2) := by decide +kernel
theorem dX2_start_128 : decode cX2_start 128 = .ok (.bipush 8, 2) := by decide +kernel
theorem dX2_start_130 : decode cX2_start 130 = .ok (.idiv, 1) := by decide +kernel
theorem dX2_start_131 : decode cX2_start 131 = .ok (.bipush 8, 2) := by decide +kernel
theorem dX2_start_133 : decode cX2_start 133 = .ok (.irem, 1) := by decide +kernel
theorem dX2_start_134 : decode cX2_start 134 = .ok (.iload 7, 2) := by decide +kernel
theorem dX2_start_136 : decode cX2_start 136 = .ok (.bipush 8, 2) := by decide +kernel
theorem dX2_start_138 : decode cX2_start 138 = .ok (.irem, 1) := by decide +kernel
theorem dX2_start_139 : decode cX2_start 139 = .ok (.invokestatic 63, 3) := by decide +kernel
theorem dX2_start_142 : decode cX2_start 142 = .ok (.bastore, 1) := by decide +kernel
theorem dX2_start_143 : decode cX2_start 143 = .ok (.iinc 7 1, 3) := by decide +kernel
theorem dX2_start_146 : decode cX2_start 146 = .ok (.goto (-42), 3) := by decide +kernel
theorem dX2_start_149 : decode cX2_start 149 = .ok (.aload_n 0, 1) := by decide +kernel
theorem dX2_start_150 : decode cX2_start 150 = .ok (.iconst 1, 1) := by decide +kernel
theorem dX2_start_151 : decode cX2_start 151 = .ok (.iload_n 1, 1) := by decide +kernel
theorem dX2_start_152 : decode cX2_start 152 = .ok (.ishl, 1) := by decide +kernel
theorem dX2_start_153 : decode cX2_start 153 = .ok (.iconst 1, 1) := by decide +kernel
theorem dX2_start_154 : decode cX2_start 154 = .ok (.isub, 1) := by decide +kernel
theorem dX2_start_155 : decode cX2_start 155 = .ok (.putfield 67, 3) := by decide +kernel
theorem dX2_start_158 : decode cX2_start 158 = .ok (.aload_n 0, 1) := by decide +kernel
theorem dX2_start_159 : decode cX2_start 159 = .ok (.iconst 1, 1) := by decide +kernel
theorem dX2_start_160 : decode cX2_start 160 = .ok (.putfield 70, 3) := by decide +kernel
theorem dX2_start_163 : decode cX2_start 163 = .ok (.aload_n 0, 1) := by decide +kernel
theorem dX2_start_164 : decode cX2_start 164 = .ok (.iconst 1, 1) := by decide +kernel
theorem dX2_start_165 : decode cX2_start 165 = .ok (.putfield 73, 3) := by decide +kernel
theorem dX2_start_168 : decode cX2_start 168 = .ok (.aload_n 0, 1) := by decide +kernel
theorem dX2_start_169 : decode cX2_start 169 = .ok (.iconst 0, 1) := by decide +kernel
theorem dX2_start_170 : decode cX2_start 170 = .ok (.putfield 60, 3) := by decide +kernel
theorem dX2_start_173 : decode cX2_start 173 = .ok (.aload_n 0, 1) := by decide +kernel
theorem dX2_start_174 : decode cX2_start 174 = .ok (.iconst (-1), 1) := by decide +kernel
theorem dX2_start_175 : decode cX2_start 175 = .ok (.putfield 76, 3) := by decide +kernel
theorem dX2_start_178 : decode cX2_start 178 = .ok (.aload_n 0, 1) := by decide +kernel
theorem dX2_start_179 : decode cX2_start 179 = .ok (.invokevirtual 79, 3) := by decide +kernel
theorem dX2_start_182 : decode cX2_start 182 = .ok (.aload_n 0, 1) := by decide +kernel
theorem dX2_start_183 : decode cX2_start 183 = .ok (.invokevirtual 82, 3) := by decide +kernel
theorem dX2_start_186 : decode cX2_start 186 = .ok (.ireturn, 1) := by decide +kernel
theorem dX2_forgets_0 : decode cX2_forgets 0 = .ok (.iconst 0, 1) := by decide +kernel
theorem dX2_forgets_1 : decode cX2_forgets 1 = .ok (.istore_n 1, 1) := by decide +kernel
theorem dX2_forgets_2 : decode cX2_forgets 2 = .ok (.iload_n 1, 1) := by decide +kernel
theorem dX2_forgets_3 : decode cX2_forgets 3 = .ok (.bipush 8, 2) := by decide +kernel
theorem dX2_forgets_5 : decode cX2_forgets 5 = .ok (.if_icmp .ge 16, 3) := by decide +kernel
theorem dX2_forgets_8 : decode cX2_forgets 8 = .ok (.aload_n 0, 1) := by decide +kernel
theorem dX2_forgets_9 : decode cX2_forgets 9 = .ok (.getfield 13, 3) := by decide +kernel
theorem dX2_forgets_12 : decode cX2_forgets 12 = .ok (.iload_n 1, 1) := by decide +kernel
theorem dX2_forgets_13 : decode cX2_forgets 13 = .ok (.iconst (-1), 1) := by decide +kernel
theorem dX2_forgets_14 : decode cX2_forgets 14 = .ok (.iastore, 1) := by decide +kernel
theorem dX2_forgets_15 : decode cX2_forgets 15 = .ok (.iinc 1 1, 3) := by decide +kernel
theorem dX2_forgets_18 : decode cX2_forgets 18 = .ok (.goto (-16), 3) := by decide +kernel
theorem dX2_forgets_21 : decode cX2_forgets 21 = .ok (.aload_n 0, 1) := by decide +kernel
theorem dX2_forgets_22 : decode cX2_forgets 22 = .ok (.iconst (-1), 1) := by decide +kernel
theorem dX2_forgets_23 : decode cX2_forgets 23 = .ok (.putfield 85, 3) := by decide +kernel
theorem dX2_forgets_26 : decode cX2_forgets 26 = .ok (.aload_n 0, 1) := by decide +kernel
theorem dX2_forgets_27 : decode cX2_forgets 27 = .ok (.iconst (-1), 1) := by decide +kernel
theorem dX2_forgets_28 : decode cX2_forgets 28 = .ok (.putfield 88, 3) := by decide +kernel
theorem dX2_forgets_31 : decode cX2_forgets 31 = .ok (.aload_n 0, 1) := by decide +kernel
theorem dX2_forgets_32 : decode cX2_forgets 32 = .ok (.iconst (-1), 1) := by decide +kernel
theorem dX2_forgets_33 : decode cX2_forgets 33 = .ok (.putfield 91, 3) := by decide +kernel
theorem dX2_forgets_36 : decode cX2_forgets 36 = .ok (.return_, 1) := by decide +kernel
theorem dX2_phase_0 : decode cX2_phase 0 = .ok (.aload_n 0, 1) := by decide +kernel
theorem dX2_phase_1 : decode cX2_phase 1 = .ok (.iconst 0, 1) := by decide +kernel
theorem dX2_phase_2 : decode cX2_phase 2 = .ok (.putfield 20, 3) := by decide +kernel
theorem dX2_phase_5 : decode cX2_phase 5 = .ok (.aload_n 0, 1) := by decide +kernel
theorem dX2_phase_6 : decode cX2_phase 6 = .ok (.getfield 70, 3) := by decide +kernel
theorem dX2_phase_9 : decode cX2_phase 9 = .ok (.ireturn, 1) := by decide +kernel
set_option maxRecDepth 20000 in
theorem ggX2_isTrue_X2_roleIn : GoodIn wsX2_isTrue wsX2_roleIn := goodIn_r _ [4, 5, 6, 3, 7] (by decide +kernel) (by decide +kernel)
set_option maxRecDepth 20000 in
theorem gX2_isTrue_X2_roleIn : GoodIn wsX2_isTrue (va_wsS RX2 56 yX2_roleIn wsX2_roleIn) := goodIn_app (goodIn_of _ (by decide +kernel)) ggX2_isTrue_X2_roleIn
theorem dX2_isTrue_0 : decode cX2_isTrue 0 = .ok (.iload_n 0, 1) := by decide +kernel
theorem dX2_isTrue_1 : decode cX2_isTrue 1 = .ok (.iload_n 2, 1) := by decide +kernel
theorem dX2_isTrue_2 : decode cX2_isTrue 2 = .ok (.invokestatic 56, 3) := by decide +kernel
theorem dX2_isTrue_5 : decode cX2_isTrue 5 = .ok (.istore_n 3, 1) := by decide +kernel
theorem dX2_isTrue_6 : decode cX2_isTrue 6 = .ok (.iload_n 1, 1) := by decide +kernel
theorem dX2_isTrue_7 : decode cX2_isTrue 7 = .ok (.ifCond .ne 16, 3) := by decide +kernel
theorem dX2_isTrue_10 : decode cX2_isTrue 10 = .ok (.iload_n 3, 1) := by decide +kernel
theorem dX2_isTrue_11 : decode cX2_isTrue 11 = .ok (.iconst 1, 1) := by decide +kernel
theorem dX2_isTrue_12 : decode cX2_isTrue 12 = .ok (.if_icmp .ne 7, 3) := by decide +kernel
theorem dX2_isTrue_15 : decode cX2_isTrue 15 = .ok (.iconst 1, 1) := by decide +kernel
theorem dX2_isTrue_16 : decode cX2_isTrue 16 = .ok (.goto 53, 3) := by decide +kernel
theorem dX2_isTrue_19 : decode cX2_isTrue 19 = .ok (.iconst 0, 1) := by decide +kernel
theorem dX2_isTrue_20 : decode cX2_isTrue 20 = .ok (.goto 49, 3) := by decide +kernel
theorem dX2_isTrue_23 : decode cX2_isTrue 23 = .ok (.iload_n 1, 1) := by decide +kernel
theorem dX2_isTrue_24 : decode cX2_isTrue 24 = .ok (.iconst 1, 1) := by decide +kernel
theorem dX2_isTrue_25 : decode cX2_isTrue 25 = .ok (.if_icmp .ne 16, 3) := by decide +kernel
theorem dX2_isTrue_28 : decode cX2_isTrue 28 = .ok (.iload_n 3, 1) := by decide +kernel
theorem dX2_isTrue_29 : decode cX2_isTrue 29 = .ok (.iconst 1, 1) := by decide +kernel
theorem dX2_isTrue_30 : decode cX2_isTrue 30 = .ok (.if_icmp .eq 7, 3) := by decide +kernel
theorem dX2_isTrue_33 : decode cX2_isTrue 33 = .ok (.iconst 1, 1) := by decide +kernel
theorem dX2_isTrue_34 : decode cX2_isTrue 34 = .ok (.goto 35, 3) := by decide +kernel
theorem dX2_isTrue_37 : decode cX2_isTrue 37 = .ok (.iconst 0, 1) := by decide +kernel
theorem dX2_isTrue_38 : decode cX2_isTrue 38 = .ok (.goto 31, 3) := by decide +kernel
theorem dX2_isTrue_41 : decode cX2_isTrue 41 = .ok (.iload_n 1, 1) := by decide +kernel
theorem dX2_isTrue_42 : decode cX2_isTrue 42 = .ok (.iconst 2, 1) := by decide +kernel
theorem dX2_isTrue_43 : decode cX2_isTrue 43 = .ok (.if_icmp .ne 16, 3) := by decide +kernel
theorem dX2_isTrue_46 : decode cX2_isTrue 46 = .ok (.iload_n 3, 1) := by decide +kernel
theorem dX2_isTrue_47 : decode cX2_isTrue 47 = .ok (.iconst 2, 1) := by decide +kernel
theorem dX2_isTrue_48 : decode cX2_isTrue 48 = .ok (.if_icmp .ne 7, 3) := by decide +kernel
theorem dX2_isTrue_51 : decode cX2_isTrue 51 = .ok (.iconst 1, 1) := by decide +kernel
theorem dX2_isTrue_52 : decode cX2_isTrue 52 = .ok (.goto 17, 3) := by decide +kernel
theorem dX2_isTrue_55 : decode cX2_isTrue 55 = .ok (.iconst 0, 1) := by decide +kernel
theorem dX2_isTrue_56 : decode cX2_isTrue 56 = .ok (.goto 13, 3) := by decide +kernel
theorem dX2_isTrue_59 : decode cX2_isTrue 59 = .ok (.iload_n 3, 1) := by decide +kernel
theorem dX2_isTrue_60 : decode cX2_isTrue 60 = .ok (.iconst 3, 1) := by decide +kernel
theorem dX2_isTrue_61 : decode cX2_isTrue 61 = .ok (.if_icmp .ne 7, 3) := by decide +kernel
theorem dX2_isTrue_64 : decode cX2_isTrue 64 = .ok (.iconst 1, 1) := by decide +kernel
theorem dX2_isTrue_65 : decode cX2_isTrue 65 = .ok (.goto 4, 3) := by decide +kernel
theorem dX2_isTrue_68 : decode cX2_isTrue 68 = .ok (.iconst 0, 1) := by decide +kernel
theorem dX2_isTrue_69 : decode cX2_isTrue 69 = .ok (.ireturn, 1) := by decide +kernel
set_option maxRecDepth 20000 in
theorem ggX2_may_X2_has : GoodIn wsX2_may wsX2_has := goodIn_r _ [7] (by decide +kernel) (by decide +kernel)
set_option maxRecDepth 20000 in
theorem gX2_may_X2_has : GoodIn wsX2_may (va_wsS RX2 39 yX2_has wsX2_has) := goodIn_app (goodIn_of _ (by decide +kernel)) ggX2_may_X2_has
theorem dX2_may_0 : decode cX2_may 0 = .ok (.aload_n 0, 1) := by decide +kernel
theorem dX2_may_1 : decode cX2_may 1 = .ok (.getfield 70, 3) := by decide +kernel
theorem dX2_may_4 : decode cX2_may 4 = .ok (.iconst 1, 1) := by decide +kernel
theorem dX2_may_5 : decode cX2_may 5 = .ok (.if_icmp .ne 33, 3) := by decide +kernel
theorem dX2_may_8 : decode cX2_may 8 = .ok (.aload_n 0, 1) := by decide +kernel
theorem dX2_may_9 : decode cX2_may 9 = .ok (.getfield 67, 3) := by decide +kernel
theorem dX2_may_12 : decode cX2_may 12 = .ok (.iload_n 1, 1) := by decide +kernel
theorem dX2_may_13 : decode cX2_may 13 = .ok (.invokestatic 39, 3) := by decide +kernel
theorem dX2_may_16 : decode cX2_may 16 = .ok (.ifCond .eq 22, 3) := by decide +kernel
theorem dX2_may_19 : decode cX2_may 19 = .ok (.iload_n 2, 1) := by decide +kernel
theorem dX2_may_20 : decode cX2_may 20 = .ok (.ifCond .ne 14, 3) := by decide +kernel
theorem dX2_may_23 : decode cX2_may 23 = .ok (.aload_n 0, 1) := by decide +kernel
theorem dX2_may_24 : decode cX2_may 24 = .ok (.getfield 43, 3) := by decide +kernel
theorem dX2_may_27 : decode cX2_may 27 = .ok (.iload_n 1, 1) := by decide +kernel
theorem dX2_may_28 : decode cX2_may 28 = .ok (.invokestatic 39, 3) := by decide +kernel
theorem dX2_may_31 : decode cX2_may 31 = .ok (.ifCond .eq 7, 3) := by decide +kernel
theorem dX2_may_34 : decode cX2_may 34 = .ok (.iconst 1, 1) := by decide +kernel
theorem dX2_may_35 : decode cX2_may 35 = .ok (.goto 4, 3) := by decide +kernel
theorem dX2_may_38 : decode cX2_may 38 = .ok (.iconst 0, 1) := by decide +kernel
theorem dX2_may_39 : decode cX2_may 39 = .ok (.ireturn, 1) := by decide +kernel
set_option maxRecDepth 20000 in
theorem ggX2_claim_X2_isPlayer : GoodIn wsX2_claim wsX2_isPlayer := goodIn_r _ [8, 9, 10, 11, 7, 12, 38, 39, 40, 41, 42, 43, 44, 45, 46, 47, 48, 49, 50, 51, 52, 53] (by decide +kernel) (by decide +kernel)
set_option maxRecDepth 20000 in
theorem gX2_claim_X2_isPlayer : GoodIn wsX2_claim (wsV RX2 31 RX2 yX2_isPlayer wsX2_isPlayer) := goodIn_app (goodIn_of _ (by decide +kernel)) ggX2_claim_X2_isPlayer
set_option maxRecDepth 20000 in
theorem ggX2_claim_X2_in : GoodIn wsX2_claim wsX2_in := goodIn_r _ [12] (by decide +kernel) (by decide +kernel)
set_option maxRecDepth 20000 in
theorem gX2_claim_X2_in : GoodIn wsX2_claim (va_wsS RX2 27 yX2_in wsX2_in) := goodIn_app (goodIn_of _ (by decide +kernel)) ggX2_claim_X2_in
set_option maxRecDepth 20000 in
theorem ggX2_claim_X2_truth : GoodIn wsX2_claim wsX2_truth := goodIn_r _ [16, 17, 18, 19, 38, 39, 40, 41, 42, 43, 44, 45, 46, 47, 48, 49, 50, 51, 52, 53] (by decide +kernel) (by decide +kernel)
set_option maxRecDepth 20000 in
theorem gX2_claim_X2_truth : GoodIn wsX2_claim (wsV RX2 52 RX2 yX2_truth wsX2_truth) := goodIn_app (goodIn_of _ (by decide +kernel)) ggX2_claim_X2_truth
set_option maxRecDepth 20000 in
theorem ggX2_claim_X2_isTrue : GoodIn wsX2_claim wsX2_isTrue := goodIn_r _ [22, 23, 24, 7, 25, 26, 27, 28] (by decide +kernel) (by decide +kernel)
set_option maxRecDepth 20000 in
theorem gX2_claim_X2_isTrue : GoodIn wsX2_claim (va_wsS RX2 94 yX2_isTrue wsX2_isTrue) := goodIn_app (goodIn_of _ (by decide +kernel)) ggX2_claim_X2_isTrue
set_option maxRecDepth 20000 in
theorem ggX2_claim_X2_may : GoodIn wsX2_claim wsX2_may := goodIn_r _ [32, 1, 33, 17, 26, 27, 7, 28, 38, 39, 40, 41, 42, 43, 44, 45, 46, 47, 48, 49, 50, 51, 52, 53] (by decide +kernel) (by decide +kernel)
set_option maxRecDepth 20000 in
theorem gX2_claim_X2_may : GoodIn wsX2_claim (wsV RX2 97 RX2 yX2_may wsX2_may) := goodIn_app (goodIn_of _ (by decide +kernel)) ggX2_claim_X2_may
set_option maxRecDepth 20000 in
theorem ggX2_claim_X2_has : GoodIn wsX2_claim wsX2_has := goodIn_r _ [28] (by decide +kernel) (by decide +kernel)
set_option maxRecDepth 20000 in
theorem gX2_claim_X2_has : GoodIn wsX2_claim (va_wsS RX2 39 yX2_has wsX2_has) := goodIn_app (goodIn_of _ (by decide +kernel)) ggX2_claim_X2_has
set_option maxRecDepth 20000 in
theorem ggX2_claim_X2_manyOpen : GoodIn wsX2_claim wsX2_manyOpen := goodIn_r _ [37, 3, 38, 39, 40, 41, 42, 43, 44, 45, 46, 47, 48, 49, 50, 51, 52, 53] (by decide +kernel) (by decide +kernel)
set_option maxRecDepth 20000 in
theorem gX2_claim_X2_manyOpen : GoodIn wsX2_claim (wsV RX2 82 RX2 yX2_manyOpen wsX2_manyOpen) := goodIn_app (goodIn_of _ (by decide +kernel)) ggX2_claim_X2_manyOpen
theorem dX2_claim_0 : decode cX2_claim 0 = .ok (.aload_n 0, 1) := by decide +kernel
theorem dX2_claim_1 : decode cX2_claim 1 = .ok (.aload_n 0, 1) := by decide +kernel
theorem dX2_claim_2 : decode cX2_claim 2 = .ok (.getfield 70, 3) := by decide +kernel
theorem dX2_claim_5 : decode cX2_claim 5 = .ok (.ifCond .ne 7, 3) := by decide +kernel
theorem dX2_claim_8 : decode cX2_claim 8 = .ok (.iconst 1, 1) := by decide +kernel
theorem dX2_claim_9 : decode cX2_claim 9 = .ok (.goto 58, 3) := by decide +kernel
theorem dX2_claim_12 : decode cX2_claim 12 = .ok (.aload_n 0, 1) := by decide +kernel
theorem dX2_claim_13 : decode cX2_claim 13 = .ok (.iload_n 1, 1) := by decide +kernel
theorem dX2_claim_14 : decode cX2_claim 14 = .ok (.invokevirtual 31, 3) := by decide +kernel
theorem dX2_claim_17 : decode cX2_claim 17 = .ok (.ifCond .eq 11, 3) := by decide +kernel
theorem dX2_claim_20 : decode cX2_claim 20 = .ok (.aload_n 0, 1) := by decide +kernel
theorem dX2_claim_21 : decode cX2_claim 21 = .ok (.iload_n 3, 1) := by decide +kernel
theorem dX2_claim_22 : decode cX2_claim 22 = .ok (.invokevirtual 31, 3) := by decide +kernel
theorem dX2_claim_25 : decode cX2_claim 25 = .ok (.ifCond .ne 7, 3) := by decide +kernel
theorem dX2_claim_28 : decode cX2_claim 28 = .ok (.iconst 2, 1) := by decide +kernel
theorem dX2_claim_29 : decode cX2_claim 29 = .ok (.goto 38, 3) := by decide +kernel
theorem dX2_claim_32 : decode cX2_claim 32 = .ok (.iload_n 2, 1) := by decide +kernel
theorem dX2_claim_33 : decode cX2_claim 33 = .ok (.iconst 0, 1) := by decide +kernel
theorem dX2_claim_34 : decode cX2_claim 34 = .ok (.iconst 3, 1) := by decide +kernel
theorem dX2_claim_35 : decode cX2_claim 35 = .ok (.invokestatic 27, 3) := by decide +kernel
theorem dX2_claim_38 : decode cX2_claim 38 = .ok (.ifCond .ne 7, 3) := by decide +kernel
theorem dX2_claim_41 : decode cX2_claim 41 = .ok (.iconst 3, 1) := by decide +kernel
theorem dX2_claim_42 : decode cX2_claim 42 = .ok (.goto 25, 3) := by decide +kernel
theorem dX2_claim_45 : decode cX2_claim 45 = .ok (.aload_n 0, 1) := by decide +kernel
theorem dX2_claim_46 : decode cX2_claim 46 = .ok (.iload_n 1, 1) := by decide +kernel
theorem dX2_claim_47 : decode cX2_claim 47 = .ok (.aload_n 0, 1) := by decide +kernel
theorem dX2_claim_48 : decode cX2_claim 48 = .ok (.invokevirtual 52, 3) := by decide +kernel
theorem dX2_claim_51 : decode cX2_claim 51 = .ok (.iload_n 2, 1) := by decide +kernel
theorem dX2_claim_52 : decode cX2_claim 52 = .ok (.iload_n 3, 1) := by decide +kernel
theorem dX2_claim_53 : decode cX2_claim 53 = .ok (.invokestatic 94, 3) := by decide +kernel
theorem dX2_claim_56 : decode cX2_claim 56 = .ok (.invokevirtual 97, 3) := by decide +kernel
theorem dX2_claim_59 : decode cX2_claim 59 = .ok (.ifCond .eq 7, 3) := by decide +kernel
theorem dX2_claim_62 : decode cX2_claim 62 = .ok (.iconst 0, 1) := by decide +kernel
theorem dX2_claim_63 : decode cX2_claim 63 = .ok (.goto 4, 3) := by decide +kernel
theorem dX2_claim_66 : decode cX2_claim 66 = .ok (.iconst 4, 1) := by decide +kernel
theorem dX2_claim_67 : decode cX2_claim 67 = .ok (.putfield 20, 3) := by decide +kernel
theorem dX2_claim_70 : decode cX2_claim 70 = .ok (.aload_n 0, 1) := by decide +kernel
theorem dX2_claim_71 : decode cX2_claim 71 = .ok (.getfield 20, 3) := by decide +kernel
theorem dX2_claim_74 : decode cX2_claim 74 = .ok (.ifCond .le 5, 3) := by decide +kernel
theorem dX2_claim_77 : decode cX2_claim 77 = .ok (.iconst 0, 1) := by decide +kernel
theorem dX2_claim_78 : decode cX2_claim 78 = .ok (.ireturn, 1) := by decide +kernel
theorem dX2_claim_79 : decode cX2_claim 79 = .ok (.iconst 0, 1) := by decide +kernel
theorem dX2_claim_80 : decode cX2_claim 80 = .ok (.istore 4, 2) := by decide +kernel
theorem dX2_claim_82 : decode cX2_claim 82 = .ok (.iload 4, 2) := by decide +kernel
theorem dX2_claim_84 : decode cX2_claim 84 = .ok (.sipush 16384, 3) := by decide +kernel
theorem dX2_claim_87 : decode cX2_claim 87 = .ok (.if_icmp .ge 53, 3) := by decide +kernel
theorem dX2_claim_90 : decode cX2_claim 90 = .ok (.aload_n 0, 1) := by decide +kernel
theorem dX2_claim_91 : decode cX2_claim 91 = .ok (.getfield 7, 3) := by decide +kernel
theorem dX2_claim_94 : decode cX2_claim 94 = .ok (.iload 4, 2) := by decide +kernel
theorem dX2_claim_96 : decode cX2_claim 96 = .ok (.aload_n 0, 1) := by decide +kernel
theorem dX2_claim_97 : decode cX2_claim 97 = .ok (.getfield 7, 3) := by decide +kernel
theorem dX2_claim_100 : decode cX2_claim 100 = .ok (.iload 4, 2) := by decide +kernel
theorem dX2_claim_102 : decode cX2_claim 102 = .ok (.baload, 1) := by decide +kernel
theorem dX2_claim_103 : decode cX2_claim 103 = .ok (.ifCond .eq 29, 3) := by decide +kernel
theorem dX2_claim_106 : decode cX2_claim 106 = .ok (.iload 4, 2) := by decide +kernel
theorem dX2_claim_108 : decode cX2_claim 108 = .ok (.bipush 64, 2) := by decide +kernel
theorem dX2_claim_110 : decode cX2_claim 110 = .ok (.idiv, 1) := by decide +kernel
theorem dX2_claim_111 : decode cX2_claim 111 = .ok (.iload_n 1, 1) := by decide +kernel
theorem dX2_claim_112 : decode cX2_claim 112 = .ok (.invokestatic 39, 3) := by decide +kernel
theorem dX2_claim_115 : decode cX2_claim 115 = .ok (.ifCond .ne 13, 3) := by decide +kernel
theorem dX2_claim_118 : decode cX2_claim 118 = .ok (.iload 4, 2) := by decide +kernel
theorem dX2_claim_120 : decode cX2_claim 120 = .ok (.iload_n 2, 1) := by decide +kernel
theorem dX2_claim_121 : decode cX2_claim 121 = .ok (.iload_n 3, 1) := by decide +kernel
theorem dX2_claim_122 : decode cX2_claim 122 = .ok (.invokestatic 94, 3) := by decide +kernel
theorem dX2_claim_125 : decode cX2_claim 125 = .ok (.ifCond .eq 7, 3) := by decide +kernel
theorem dX2_claim_128 : decode cX2_claim 128 = .ok (.iconst 1, 1) := by decide +kernel
theorem dX2_claim_129 : decode cX2_claim 129 = .ok (.goto 4, 3) := by decide +kernel
theorem dX2_claim_132 : decode cX2_claim 132 = .ok (.iconst 0, 1) := by decide +kernel
theorem dX2_claim_133 : decode cX2_claim 133 = .ok (.bastore, 1) := by decide +kernel
theorem dX2_claim_134 : decode cX2_claim 134 = .ok (.iinc 4 1, 3) := by decide +kernel
theorem dX2_claim_137 : decode cX2_claim 137 = .ok (.goto (-55), 3) := by decide +kernel
theorem dX2_claim_140 : decode cX2_claim 140 = .ok (.aload_n 0, 1) := by decide +kernel
theorem dX2_claim_141 : decode cX2_claim 141 = .ok (.invokevirtual 82, 3) := by decide +kernel
theorem dX2_claim_144 : decode cX2_claim 144 = .ok (.ireturn, 1) := by decide +kernel
set_option maxRecDepth 20000 in
theorem ggX2_claimAmong_X2_isPlayer : GoodIn wsX2_claimAmong wsX2_isPlayer := goodIn_r _ [10, 2, 11, 12, 9, 13, 26, 27, 28, 29, 30, 31, 32, 33, 34, 35, 36, 37, 38, 39, 40, 41] (by decide +kernel) (by decide +kernel)
set_option maxRecDepth 20000 in
theorem gX2_claimAmong_X2_isPlayer : GoodIn wsX2_claimAmong (wsV RX2 31 RX2 yX2_isPlayer wsX2_isPlayer) := goodIn_app (goodIn_of _ (by decide +kernel)) ggX2_claimAmong_X2_isPlayer
set_option maxRecDepth 20000 in
theorem ggX2_claimAmong_X2_in : GoodIn wsX2_claimAmong wsX2_in := goodIn_r _ [13] (by decide +kernel) (by decide +kernel)
set_option maxRecDepth 20000 in
theorem gX2_claimAmong_X2_in : GoodIn wsX2_claimAmong (va_wsS RX2 27 yX2_in wsX2_in) := goodIn_app (goodIn_of _ (by decide +kernel)) ggX2_claimAmong_X2_in
set_option maxRecDepth 20000 in
theorem ggX2_claimAmong_X2_may : GoodIn wsX2_claimAmong wsX2_may := goodIn_r _ [17, 1, 18, 3, 19, 20, 9, 21, 26, 27, 28, 29, 30, 31, 32, 33, 34, 35, 36, 37, 38, 39, 40, 41] (by decide +kernel) (by decide +kernel)
set_option maxRecDepth 20000 in
theorem gX2_claimAmong_X2_may : GoodIn wsX2_claimAmong (wsV RX2 97 RX2 yX2_may wsX2_may) := goodIn_app (goodIn_of _ (by decide +kernel)) ggX2_claimAmong_X2_may
set_option maxRecDepth 20000 in
theorem ggX2_claimAmong_X2_has : GoodIn wsX2_claimAmong wsX2_has := goodIn_r _ [21] (by decide +kernel) (by decide +kernel)
set_option maxRecDepth 20000 in
theorem gX2_claimAmong_X2_has : GoodIn wsX2_claimAmong (va_wsS RX2 39 yX2_has wsX2_has) := goodIn_app (goodIn_of _ (by decide +kernel)) ggX2_claimAmong_X2_has
set_option maxRecDepth 20000 in
theorem ggX2_claimAmong_X2_manyOpen : GoodIn wsX2_claimAmong wsX2_manyOpen := goodIn_r _ [25, 5, 26, 27, 28, 29, 30, 31, 32, 33, 34, 35, 36, 37, 38, 39, 40, 41] (by decide +kernel) (by decide +kernel)
set_option maxRecDepth 20000 in
theorem gX2_claimAmong_X2_manyOpen : GoodIn wsX2_claimAmong (wsV RX2 82 RX2 yX2_manyOpen wsX2_manyOpen) := goodIn_app (goodIn_of _ (by decide +kernel)) ggX2_claimAmong_X2_manyOpen
theorem dX2_claimAmong_0 : decode cX2_claimAmong 0 = .ok (.aload_n 0, 1) := by decide +kernel
theorem dX2_claimAmong_1 : decode cX2_claimAmong 1 = .ok (.aload_n 0, 1) := by decide +kernel
theorem dX2_claimAmong_2 : decode cX2_claimAmong 2 = .ok (.getfield 70, 3) := by decide +kernel
theorem dX2_claimAmong_5 : decode cX2_claimAmong 5 = .ok (.ifCond .ne 7, 3) := by decide +kernel
theorem dX2_claimAmong_8 : decode cX2_claimAmong 8 = .ok (.iconst 1, 1) := by decide +kernel
theorem dX2_claimAmong_9 : decode cX2_claimAmong 9 = .ok (.goto 62, 3) := by decide +kernel
theorem dX2_claimAmong_12 : decode cX2_claimAmong 12 = .ok (.aload_n 0, 1) := by decide +kernel
theorem dX2_claimAmong_13 : decode cX2_claimAmong 13 = .ok (.iload_n 1, 1) := by decide +kernel
theorem dX2_claimAmong_14 : decode cX2_claimAmong 14 = .ok (.invokevirtual 31, 3) := by decide +kernel
theorem dX2_claimAmong_17 : decode cX2_claimAmong 17 = .ok (.ifCond .ne 7, 3) := by decide +kernel
theorem dX2_claimAmong_20 : decode cX2_claimAmong 20 = .ok (.iconst 2, 1) := by decide +kernel
theorem dX2_claimAmong_21 : decode cX2_claimAmong 21 = .ok (.goto 50, 3) := by decide +kernel
theorem dX2_claimAmong_24 : decode cX2_claimAmong 24 = .ok (.iload_n 2, 1) := by decide +kernel
theorem dX2_claimAmong_25 : decode cX2_claimAmong 25 = .ok (.iconst 0, 1) := by decide +kernel
theorem dX2_claimAmong_26 : decode cX2_claimAmong 26 = .ok (.iconst 1, 1) := by decide +kernel
theorem dX2_claimAmong_27 : decode cX2_claimAmong 27 = .ok (.aload_n 0, 1) := by decide +kernel
theorem dX2_claimAmong_28 : decode cX2_claimAmong 28 = .ok (.getfield 24, 3) := by decide +kernel
theorem dX2_claimAmong_31 : decode cX2_claimAmong 31 = .ok (.ishl, 1) := by decide +kernel
theorem dX2_claimAmong_32 : decode cX2_claimAmong 32 = .ok (.iconst 1, 1) := by decide +kernel
theorem dX2_claimAmong_33 : decode cX2_claimAmong 33 = .ok (.isub, 1) := by decide +kernel
theorem dX2_claimAmong_34 : decode cX2_claimAmong 34 = .ok (.invokestatic 27, 3) := by decide +kernel
theorem dX2_claimAmong_37 : decode cX2_claimAmong 37 = .ok (.ifCond .ne 7, 3) := by decide +kernel
theorem dX2_claimAmong_40 : decode cX2_claimAmong 40 = .ok (.iconst 3, 1) := by decide +kernel
theorem dX2_claimAmong_41 : decode cX2_claimAmong 41 = .ok (.goto 30, 3) := by decide +kernel
theorem dX2_claimAmong_44 : decode cX2_claimAmong 44 = .ok (.aload_n 0, 1) := by decide +kernel
theorem dX2_claimAmong_45 : decode cX2_claimAmong 45 = .ok (.iload_n 1, 1) := by decide +kernel
theorem dX2_claimAmong_46 : decode cX2_claimAmong 46 = .ok (.aload_n 0, 1) := by decide +kernel
theorem dX2_claimAmong_47 : decode cX2_claimAmong 47 = .ok (.getfield 43, 3) := by decide +kernel
theorem dX2_claimAmong_50 : decode cX2_claimAmong 50 = .ok (.iload_n 2, 1) := by decide +kernel
theorem dX2_claimAmong_51 : decode cX2_claimAmong 51 = .ok (.iand, 1) := by decide +kernel
theorem dX2_claimAmong_52 : decode cX2_claimAmong 52 = .ok (.ifCond .eq 7, 3) := by decide +kernel
theorem dX2_claimAmong_55 : decode cX2_claimAmong 55 = .ok (.iconst 1, 1) := by decide +kernel
theorem dX2_claimAmong_56 : decode cX2_claimAmong 56 = .ok (.goto 4, 3) := by decide +kernel
theorem dX2_claimAmong_59 : decode cX2_claimAmong 59 = .ok (.iconst 0, 1) := by decide +kernel
theorem dX2_claimAmong_60 : decode cX2_claimAmong 60 = .ok (.invokevirtual 97, 3) := by decide +kernel
theorem dX2_claimAmong_63 : decode cX2_claimAmong 63 = .ok (.ifCond .eq 7, 3) := by decide +kernel
theorem dX2_claimAmong_66 : decode cX2_claimAmong 66 = .ok (.iconst 0, 1) := by decide +kernel
theorem dX2_claimAmong_67 : decode cX2_claimAmong 67 = .ok (.goto 4, 3) := by decide +kernel
theorem dX2_claimAmong_70 : decode cX2_claimAmong 70 = .ok (.iconst 4, 1) := by decide +kernel
theorem dX2_claimAmong_71 : decode cX2_claimAmong 71 = .ok (.putfield 20, 3) := by decide +kernel
theorem dX2_claimAmong_74 : decode cX2_claimAmong 74 = .ok (.aload_n 0, 1) := by decide +kernel
theorem dX2_claimAmong_75 : decode cX2_claimAmong 75 = .ok (.getfield 20, 3) := by decide +kernel
theorem dX2_claimAmong_78 : decode cX2_claimAmong 78 = .ok (.ifCond .le 5, 3) := by decide +kernel
theorem dX2_claimAmong_81 : decode cX2_claimAmong 81 = .ok (.iconst 0, 1) := by decide +kernel
theorem dX2_claimAmong_82 : decode cX2_claimAmong 82 = .ok (.ireturn, 1) := by decide +kernel
theorem dX2_claimAmong_83 : decode cX2_claimAmong 83 = .ok (.iconst 0, 1) := by decide +kernel
theorem dX2_claimAmong_84 : decode cX2_claimAmong 84 = .ok (.istore_n 3, 1) := by decide +kernel
theorem dX2_claimAmong_85 : decode cX2_claimAmong 85 = .ok (.iload_n 3, 1) := by decide +kernel
theorem dX2_claimAmong_86 : decode cX2_claimAmong 86 = .ok (.sipush 16384, 3) := by decide +kernel
theorem dX2_claimAmong_89 : decode cX2_claimAmong 89 = .ok (.if_icmp .ge 49, 3) := by decide +kernel
theorem dX2_claimAmong_92 : decode cX2_claimAmong 92 = .ok (.aload_n 0, 1) := by decide +kernel
theorem dX2_claimAmong_93 : decode cX2_claimAmong 93 = .ok (.getfield 7, 3) := by decide +kernel
theorem dX2_claimAmong_96 : decode cX2_claimAmong 96 = .ok (.iload_n 3, 1) := by decide +kernel
theorem dX2_claimAmong_97 : decode cX2_claimAmong 97 = .ok (.aload_n 0, 1) := by decide +kernel
theorem dX2_claimAmong_98 : decode cX2_claimAmong 98 = .ok (.getfield 7, 3) := by decide +kernel
theorem dX2_claimAmong_101 : decode cX2_claimAmong 101 = .ok (.iload_n 3, 1) := by decide +kernel
theorem dX2_claimAmong_102 : decode cX2_claimAmong 102 = .ok (.baload, 1) := by decide +kernel
theorem dX2_claimAmong_103 : decode cX2_claimAmong 103 = .ok (.ifCond .eq 27, 3) := by decide +kernel
theorem dX2_claimAmong_106 : decode cX2_claimAmong 106 = .ok (.iload_n 3, 1) := by decide +kernel
theorem dX2_claimAmong_107 : decode cX2_claimAmong 107 = .ok (.bipush 64, 2) := by decide +kernel
theorem dX2_claimAmong_109 : decode cX2_claimAmong 109 = .ok (.idiv, 1) := by decide +kernel
theorem dX2_claimAmong_110 : decode cX2_claimAmong 110 = .ok (.iload_n 1, 1) := by decide +kernel
theorem dX2_claimAmong_111 : decode cX2_claimAmong 111 = .ok (.invokestatic 39, 3) := by decide +kernel
theorem dX2_claimAmong_114 : decode cX2_claimAmong 114 = .ok (.ifCond .ne 12, 3) := by decide +kernel
theorem dX2_claimAmong_117 : decode cX2_claimAmong 117 = .ok (.iload_n 3, 1) := by decide +kernel
theorem dX2_claimAmong_118 : decode cX2_claimAmong 118 = .ok (.bipush 64, 2) := by decide +kernel
theorem dX2_claimAmong_120 : decode cX2_claimAmong 120 = .ok (.idiv, 1) := by decide +kernel
theorem dX2_claimAmong_121 : decode cX2_claimAmong 121 = .ok (.iload_n 2, 1) := by decide +kernel
theorem dX2_claimAmong_122 : decode cX2_claimAmong 122 = .ok (.iand, 1) := by decide +kernel
theorem dX2_claimAmong_123 : decode cX2_claimAmong 123 = .ok (.ifCond .eq 7, 3) := by decide +kernel
theorem dX2_claimAmong_126 : decode cX2_claimAmong 126 = .ok (.iconst 1, 1) := by decide +kernel
theorem dX2_claimAmong_127 : decode cX2_claimAmong 127 = .ok (.goto 4, 3) := by decide +kernel
theorem dX2_claimAmong_130 : decode cX2_claimAmong 130 = .ok (.iconst 0, 1) := by decide +kernel
theorem dX2_claimAmong_131 : decode cX2_claimAmong 131 = .ok (.bastore, 1) := by decide +kernel
theorem dX2_claimAmong_132 : decode cX2_claimAmong 132 = .ok (.iinc 3 1, 3) := by decide +kernel
theorem dX2_claimAmong_135 : decode cX2_claimAmong 135 = .ok (.goto (-50), 3) := by decide +kernel
theorem dX2_claimAmong_138 : decode cX2_claimAmong 138 = .ok (.aload_n 0, 1) := by decide +kernel
theorem dX2_claimAmong_139 : decode cX2_claimAmong 139 = .ok (.invokevirtual 82, 3) := by decide +kernel
theorem dX2_claimAmong_142 : decode cX2_claimAmong 142 = .ok (.ireturn, 1) := by decide +kernel
theorem dX2_manyVotes_0 : decode cX2_manyVotes 0 = .ok (.iconst 0, 1) := by decide +kernel
theorem dX2_manyVotes_1 : decode cX2_manyVotes 1 = .ok (.istore_n 2, 1) := by decide +kernel
theorem dX2_manyVotes_2 : decode cX2_manyVotes 2 = .ok (.iconst 0, 1) := by decide +kernel
theorem dX2_manyVotes_3 : decode cX2_manyVotes 3 = .ok (.istore_n 3, 1) := by decide +kernel
theorem dX2_manyVotes_4 : decode cX2_manyVotes 4 = .ok (.iload_n 3, 1) := by decide +kernel
theorem dX2_manyVotes_5 : decode cX2_manyVotes 5 = .ok (.bipush 8, 2) := by decide +kernel
theorem dX2_manyVotes_7 : decode cX2_manyVotes 7 = .ok (.if_icmp .ge 27, 3) := by decide +kernel
theorem dX2_manyVotes_10 : decode cX2_manyVotes 10 = .ok (.iload_n 2, 1) := by decide +kernel
theorem dX2_manyVotes_11 : decode cX2_manyVotes 11 = .ok (.aload_n 0, 1) := by decide +kernel
theorem dX2_manyVotes_12 : decode cX2_manyVotes 12 = .ok (.getfield 13, 3) := by decide +kernel
theorem dX2_manyVotes_15 : decode cX2_manyVotes 15 = .ok (.iload_n 3, 1) := by decide +kernel
theorem dX2_manyVotes_16 : decode cX2_manyVotes 16 = .ok (.iaload, 1) := by decide +kernel
theorem dX2_manyVotes_17 : decode cX2_manyVotes 17 = .ok (.iload_n 1, 1) := by decide +kernel
theorem dX2_manyVotes_18 : decode cX2_manyVotes 18 = .ok (.if_icmp .ne 7, 3) := by decide +kernel
theorem dX2_manyVotes_21 : decode cX2_manyVotes 21 = .ok (.iconst 1, 1) := by decide +kernel
theorem dX2_manyVotes_22 : decode cX2_manyVotes 22 = .ok (.goto 4, 3) := by decide +kernel
theorem dX2_manyVotes_25 : decode cX2_manyVotes 25 = .ok (.iconst 0, 1) := by decide +kernel
theorem dX2_manyVotes_26 : decode cX2_manyVotes 26 = .ok (.iadd, 1) := by decide +kernel
theorem dX2_manyVotes_27 : decode cX2_manyVotes 27 = .ok (.istore_n 2, 1) := by decide +kernel
theorem dX2_manyVotes_28 : decode cX2_manyVotes 28 = .ok (.iinc 3 1, 3) := by decide +kernel
theorem dX2_manyVotes_31 : decode cX2_manyVotes 31 = .ok (.goto (-27), 3) := by decide +kernel
theorem dX2_manyVotes_34 : decode cX2_manyVotes 34 = .ok (.iload_n 2, 1) := by decide +kernel
theorem dX2_manyVotes_35 : decode cX2_manyVotes 35 = .ok (.ireturn, 1) := by decide +kernel
set_option maxRecDepth 20000 in
theorem ggX2_vote_X2_isPlayer : GoodIn wsX2_vote wsX2_isPlayer := goodIn_r _ [9, 10, 11, 12, 8, 13, 21, 22, 23, 24, 25, 26, 27, 28, 29, 30, 31, 32, 33, 34, 35, 36] (by decide +kernel) (by decide +kernel)
set_option maxRecDepth 20000 in
theorem gX2_vote_X2_isPlayer : GoodIn wsX2_vote (wsV RX2 31 RX2 yX2_isPlayer wsX2_isPlayer) := goodIn_app (goodIn_of _ (by decide +kernel)) ggX2_vote_X2_isPlayer
set_option maxRecDepth 20000 in
theorem ggX2_vote_X2_has : GoodIn wsX2_vote wsX2_has := goodIn_r _ [16] (by decide +kernel) (by decide +kernel)
set_option maxRecDepth 20000 in
theorem gX2_vote_X2_has : GoodIn wsX2_vote (va_wsS RX2 39 yX2_has wsX2_has) := goodIn_app (goodIn_of _ (by decide +kernel)) ggX2_vote_X2_has
set_option maxRecDepth 20000 in
theorem ggX2_vote_X2_manyVotes : GoodIn wsX2_vote wsX2_manyVotes := goodIn_r _ [20, 4, 21, 22, 23, 24, 25, 26, 27, 28, 29, 30, 31, 32, 33, 34, 35, 36] (by decide +kernel) (by decide +kernel)
set_option maxRecDepth 20000 in
theorem gX2_vote_X2_manyVotes : GoodIn wsX2_vote (wsV RX2 101 RX2 yX2_manyVotes wsX2_manyVotes) := goodIn_app (goodIn_of _ (by decide +kernel)) ggX2_vote_X2_manyVotes
theorem dX2_vote_0 : decode cX2_vote 0 = .ok (.aload_n 0, 1) := by decide +kernel
theorem dX2_vote_1 : decode cX2_vote 1 = .ok (.aload_n 0, 1) := by decide +kernel
theorem dX2_vote_2 : decode cX2_vote 2 = .ok (.getfield 70, 3) := by decide +kernel
theorem dX2_vote_5 : decode cX2_vote 5 = .ok (.iconst 1, 1) := by decide +kernel
theorem dX2_vote_6 : decode cX2_vote 6 = .ok (.if_icmp .eq 7, 3) := by decide +kernel
theorem dX2_vote_9 : decode cX2_vote 9 = .ok (.iconst 1, 1) := by decide +kernel
theorem dX2_vote_10 : decode cX2_vote 10 = .ok (.goto 50, 3) := by decide +kernel
theorem dX2_vote_13 : decode cX2_vote 13 = .ok (.aload_n 0, 1) := by decide +kernel
theorem dX2_vote_14 : decode cX2_vote 14 = .ok (.iload_n 1, 1) := by decide +kernel
theorem dX2_vote_15 : decode cX2_vote 15 = .ok (.invokevirtual 31, 3) := by decide +kernel
theorem dX2_vote_18 : decode cX2_vote 18 = .ok (.ifCond .eq 11, 3) := by decide +kernel
theorem dX2_vote_21 : decode cX2_vote 21 = .ok (.aload_n 0, 1) := by decide +kernel
theorem dX2_vote_22 : decode cX2_vote 22 = .ok (.iload_n 2, 1) := by decide +kernel
theorem dX2_vote_23 : decode cX2_vote 23 = .ok (.invokevirtual 31, 3) := by decide +kernel
theorem dX2_vote_26 : decode cX2_vote 26 = .ok (.ifCond .ne 7, 3) := by decide +kernel
theorem dX2_vote_29 : decode cX2_vote 29 = .ok (.iconst 2, 1) := by decide +kernel
theorem dX2_vote_30 : decode cX2_vote 30 = .ok (.goto 30, 3) := by decide +kernel
theorem dX2_vote_33 : decode cX2_vote 33 = .ok (.aload_n 0, 1) := by decide +kernel
theorem dX2_vote_34 : decode cX2_vote 34 = .ok (.getfield 67, 3) := by decide +kernel
theorem dX2_vote_37 : decode cX2_vote 37 = .ok (.iload_n 1, 1) := by decide +kernel
theorem dX2_vote_38 : decode cX2_vote 38 = .ok (.invokestatic 39, 3) := by decide +kernel
theorem dX2_vote_41 : decode cX2_vote 41 = .ok (.ifCond .eq 18, 3) := by decide +kernel
theorem dX2_vote_44 : decode cX2_vote 44 = .ok (.aload_n 0, 1) := by decide +kernel
theorem dX2_vote_45 : decode cX2_vote 45 = .ok (.getfield 67, 3) := by decide +kernel
theorem dX2_vote_48 : decode cX2_vote 48 = .ok (.iload_n 2, 1) := by decide +kernel
theorem dX2_vote_49 : decode cX2_vote 49 = .ok (.invokestatic 39, 3) := by decide +kernel
theorem dX2_vote_52 : decode cX2_vote 52 = .ok (.ifCond .eq 7, 3) := by decide +kernel
theorem dX2_vote_55 : decode cX2_vote 55 = .ok (.iconst 0, 1) := by decide +kernel
theorem dX2_vote_56 : decode cX2_vote 56 = .ok (.goto 4, 3) := by decide +kernel
theorem dX2_vote_59 : decode cX2_vote 59 = .ok (.iconst 3, 1) := by decide +kernel
theorem dX2_vote_60 : decode cX2_vote 60 = .ok (.putfield 20, 3) := by decide +kernel
theorem dX2_vote_63 : decode cX2_vote 63 = .ok (.aload_n 0, 1) := by decide +kernel
theorem dX2_vote_64 : decode cX2_vote 64 = .ok (.getfield 20, 3) := by decide +kernel
theorem dX2_vote_67 : decode cX2_vote 67 = .ok (.ifCond .le 5, 3) := by decide +kernel
theorem dX2_vote_70 : decode cX2_vote 70 = .ok (.iconst 0, 1) := by decide +kernel
theorem dX2_vote_71 : decode cX2_vote 71 = .ok (.ireturn, 1) := by decide +kernel
theorem dX2_vote_72 : decode cX2_vote 72 = .ok (.aload_n 0, 1) := by decide +kernel
theorem dX2_vote_73 : decode cX2_vote 73 = .ok (.getfield 13, 3) := by decide +kernel
theorem dX2_vote_76 : decode cX2_vote 76 = .ok (.iload_n 1, 1) := by decide +kernel
theorem dX2_vote_77 : decode cX2_vote 77 = .ok (.iload_n 2, 1) := by decide +kernel
theorem dX2_vote_78 : decode cX2_vote 78 = .ok (.iastore, 1) := by decide +kernel
theorem dX2_vote_79 : decode cX2_vote 79 = .ok (.aload_n 0, 1) := by decide +kernel
theorem dX2_vote_80 : decode cX2_vote 80 = .ok (.iload_n 2, 1) := by decide +kernel
theorem dX2_vote_81 : decode cX2_vote 81 = .ok (.invokevirtual 101, 3) := by decide +kernel
theorem dX2_vote_84 : decode cX2_vote 84 = .ok (.ireturn, 1) := by decide +kernel
set_option maxRecDepth 20000 in
theorem ggX2_dies_X2_truth : GoodIn wsX2_dies wsX2_truth := goodIn_r _ [9, 3, 10, 11, 21, 22, 23, 24, 25, 26, 27, 28, 29, 30, 31, 32, 33, 34, 35, 36] (by decide +kernel) (by decide +kernel)
set_option maxRecDepth 20000 in
theorem gX2_dies_X2_truth : GoodIn wsX2_dies (wsV RX2 52 RX2 yX2_truth wsX2_truth) := goodIn_app (goodIn_of _ (by decide +kernel)) ggX2_dies_X2_truth
set_option maxRecDepth 20000 in
theorem ggX2_dies_X2_roleIn : GoodIn wsX2_dies wsX2_roleIn := goodIn_r _ [14, 15, 16, 8, 17] (by decide +kernel) (by decide +kernel)
set_option maxRecDepth 20000 in
theorem gX2_dies_X2_roleIn : GoodIn wsX2_dies (va_wsS RX2 56 yX2_roleIn wsX2_roleIn) := goodIn_app (goodIn_of _ (by decide +kernel)) ggX2_dies_X2_roleIn
set_option maxRecDepth 20000 in
theorem ggX2_dies_X2_bits : GoodIn wsX2_dies wsX2_bits := goodIn_r _ [20] (by decide +kernel) (by decide +kernel)
set_option maxRecDepth 20000 in
theorem gX2_dies_X2_bits : GoodIn wsX2_dies (va_wsS RX2 35 yX2_bits wsX2_bits) := goodIn_app (goodIn_of _ (by decide +kernel)) ggX2_dies_X2_bits
theorem dX2_dies_0 : decode cX2_dies 0 = .ok (.aload_n 0, 1) := by decide +kernel
theorem dX2_dies_1 : decode cX2_dies 1 = .ok (.dup, 1) := by decide +kernel
theorem dX2_dies_2 : decode cX2_dies 2 = .ok (.getfield 67, 3) := by decide +kernel
theorem dX2_dies_5 : decode cX2_dies 5 = .ok (.iconst 1, 1) := by decide +kernel
theorem dX2_dies_6 : decode cX2_dies 6 = .ok (.iload_n 1, 1) := by decide +kernel
theorem dX2_dies_7 : decode cX2_dies 7 = .ok (.ishl, 1) := by decide +kernel
theorem dX2_dies_8 : decode cX2_dies 8 = .ok (.iconst (-1), 1) := by decide +kernel
theorem dX2_dies_9 : decode cX2_dies 9 = .ok (.ixor, 1) := by decide +kernel
theorem dX2_dies_10 : decode cX2_dies 10 = .ok (.iand, 1) := by decide +kernel
theorem dX2_dies_11 : decode cX2_dies 11 = .ok (.putfield 67, 3) := by decide +kernel
theorem dX2_dies_14 : decode cX2_dies 14 = .ok (.aload_n 0, 1) := by decide +kernel
theorem dX2_dies_15 : decode cX2_dies 15 = .ok (.invokevirtual 52, 3) := by decide +kernel
theorem dX2_dies_18 : decode cX2_dies 18 = .ok (.iload_n 1, 1) := by decide +kernel
theorem dX2_dies_19 : decode cX2_dies 19 = .ok (.invokestatic 56, 3) := by decide +kernel
theorem dX2_dies_22 : decode cX2_dies 22 = .ok (.istore_n 2, 1) := by decide +kernel
theorem dX2_dies_23 : decode cX2_dies 23 = .ok (.iconst 0, 1) := by decide +kernel
theorem dX2_dies_24 : decode cX2_dies 24 = .ok (.istore_n 3, 1) := by decide +kernel
theorem dX2_dies_25 : decode cX2_dies 25 = .ok (.iload_n 3, 1) := by decide +kernel
theorem dX2_dies_26 : decode cX2_dies 26 = .ok (.sipush 16384, 3) := by decide +kernel
theorem dX2_dies_29 : decode cX2_dies 29 = .ok (.if_icmp .ge 38, 3) := by decide +kernel
theorem dX2_dies_32 : decode cX2_dies 32 = .ok (.aload_n 0, 1) := by decide +kernel
theorem dX2_dies_33 : decode cX2_dies 33 = .ok (.getfield 7, 3) := by decide +kernel
theorem dX2_dies_36 : decode cX2_dies 36 = .ok (.iload_n 3, 1) := by decide +kernel
theorem dX2_dies_37 : decode cX2_dies 37 = .ok (.aload_n 0, 1) := by decide +kernel
theorem dX2_dies_38 : decode cX2_dies 38 = .ok (.getfield 7, 3) := by decide +kernel
theorem dX2_dies_41 : decode cX2_dies 41 = .ok (.iload_n 3, 1) := by decide +kernel
theorem dX2_dies_42 : decode cX2_dies 42 = .ok (.baload, 1) := by decide +kernel
theorem dX2_dies_43 : decode cX2_dies 43 = .ok (.ifCond .eq 16, 3) := by decide +kernel
theorem dX2_dies_46 : decode cX2_dies 46 = .ok (.iload_n 3, 1) := by decide +kernel
theorem dX2_dies_47 : decode cX2_dies 47 = .ok (.iload_n 1, 1) := by decide +kernel
theorem dX2_dies_48 : decode cX2_dies 48 = .ok (.invokestatic 56, 3) := by decide +kernel
theorem dX2_dies_51 : decode cX2_dies 51 = .ok (.iload_n 2, 1) := by decide +kernel
theorem dX2_dies_52 : decode cX2_dies 52 = .ok (.if_icmp .ne 7, 3) := by decide +kernel
theorem dX2_dies_55 : decode cX2_dies 55 = .ok (.iconst 1, 1) := by decide +kernel
theorem dX2_dies_56 : decode cX2_dies 56 = .ok (.goto 4, 3) := by decide +kernel
theorem dX2_dies_59 : decode cX2_dies 59 = .ok (.iconst 0, 1) := by decide +kernel
theorem dX2_dies_60 : decode cX2_dies 60 = .ok (.bastore, 1) := by decide +kernel
theorem dX2_dies_61 : decode cX2_dies 61 = .ok (.iinc 3 1, 3) := by decide +kernel
theorem dX2_dies_64 : decode cX2_dies 64 = .ok (.goto (-39), 3) := by decide +kernel
theorem dX2_dies_67 : decode cX2_dies 67 = .ok (.aload_n 0, 1) := by decide +kernel
theorem dX2_dies_68 : decode cX2_dies 68 = .ok (.getfield 67, 3) := by decide +kernel
theorem dX2_dies_71 : decode cX2_dies 71 = .ok (.aload_n 0, 1) := by decide +kernel
theorem dX2_dies_72 : decode cX2_dies 72 = .ok (.getfield 43, 3) := by decide +kernel
theorem dX2_dies_75 : decode cX2_dies 75 = .ok (.iand, 1) := by decide +kernel
theorem dX2_dies_76 : decode cX2_dies 76 = .ok (.invokestatic 35, 3) := by decide +kernel
theorem dX2_dies_79 : decode cX2_dies 79 = .ok (.istore_n 3, 1) := by decide +kernel
theorem dX2_dies_80 : decode cX2_dies 80 = .ok (.aload_n 0, 1) := by decide +kernel
theorem dX2_dies_81 : decode cX2_dies 81 = .ok (.iload_n 3, 1) := by decide +kernel
theorem dX2_dies_82 : decode cX2_dies 82 = .ok (.ifCond .ne 7, 3) := by decide +kernel
theorem dX2_dies_85 : decode cX2_dies 85 = .ok (.iconst 3, 1) := by decide +kernel
theorem dX2_dies_86 : decode cX2_dies 86 = .ok (.goto 24, 3) := by decide +kernel
theorem dX2_dies_89 : decode cX2_dies 89 = .ok (.iconst 2, 1) := by decide +kernel
theorem dX2_dies_90 : decode cX2_dies 90 = .ok (.iload_n 3, 1) := by decide +kernel
theorem dX2_dies_91 : decode cX2_dies 91 = .ok (.imul, 1) := by decide +kernel
theorem dX2_dies_92 : decode cX2_dies 92 = .ok (.aload_n 0, 1) := by decide +kernel
theorem dX2_dies_93 : decode cX2_dies 93 = .ok (.getfield 67, 3) := by decide +kernel
theorem dX2_dies_96 : decode cX2_dies 96 = .ok (.invokestatic 35, 3) := by decide +kernel
theorem dX2_dies_99 : decode cX2_dies 99 = .ok (.if_icmp .lt 7, 3) := by decide +kernel
theorem dX2_dies_102 : decode cX2_dies 102 = .ok (.iconst 4, 1) := by decide +kernel
theorem dX2_dies_103 : decode cX2_dies 103 = .ok (.goto 7, 3) := by decide +kernel
theorem dX2_dies_106 : decode cX2_dies 106 = .ok (.aload_n 0, 1) := by decide +kernel
theorem dX2_dies_107 : decode cX2_dies 107 = .ok (.getfield 70, 3) := by decide +kernel
theorem dX2_dies_110 : decode cX2_dies 110 = .ok (.putfield 70, 3) := by decide +kernel
theorem dX2_dies_113 : decode cX2_dies 113 = .ok (.return_, 1) := by decide +kernel
set_option maxRecDepth 20000 in
theorem ggX2_closeVote_X2_manyVotes : GoodIn wsX2_closeVote wsX2_manyVotes := goodIn_r _ [8, 9, 39, 40, 41, 42, 43, 44, 45, 46, 47, 48, 49, 50, 51, 52, 53, 54] (by decide +kernel) (by decide +kernel)
set_option maxRecDepth 20000 in
theorem gX2_closeVote_X2_manyVotes : GoodIn wsX2_closeVote (wsV RX2 101 RX2 yX2_manyVotes wsX2_manyVotes) := goodIn_app (goodIn_of _ (by decide +kernel)) ggX2_closeVote_X2_manyVotes
set_option maxRecDepth 20000 in
theorem ggX2_closeVote_X2_forgets : GoodIn wsX2_closeVote wsX2_forgets := goodIn_r _ [13, 9, 14, 15, 16, 39, 40, 41, 42, 43, 44, 45, 46, 47, 48, 49, 50, 51, 52, 53, 54] (by decide +kernel) (by decide +kernel)
set_option maxRecDepth 20000 in
theorem gX2_closeVote_X2_forgets : GoodIn wsX2_closeVote (wsV RX2 79 RX2 yX2_forgets wsX2_forgets) := goodIn_app (goodIn_of _ (by decide +kernel)) ggX2_closeVote_X2_forgets
set_option maxRecDepth 20000 in
theorem ggX2_closeVote_X2_dies : GoodIn wsX2_closeVote wsX2_dies := goodIn_r _ [20, 21, 22, 23, 1, 24, 25, 26, 7, 27, 28, 29, 30, 31, 32, 33, 34, 35, 36, 37, 38, 39, 40, 41, 42, 43, 44, 45, 46, 47, 48, 49, 50, 51, 52, 53, 54] (by decide +kernel) (by decide +kernel)
set_option maxRecDepth 20000 in
theorem gX2_closeVote_X2_dies : GoodIn wsX2_closeVote (wsV RX2 104 RX2 yX2_dies wsX2_dies) := goodIn_app (goodIn_of _ (by decide +kernel)) ggX2_closeVote_X2_dies
theorem dX2_closeVote_0 : decode cX2_closeVote 0 = .ok (.aload_n 0, 1) := by decide +kernel
theorem dX2_closeVote_1 : decode cX2_closeVote 1 = .ok (.aload_n 0, 1) := by decide +kernel
theorem dX2_closeVote_2 : decode cX2_closeVote 2 = .ok (.getfield 70, 3) := by decide +kernel
theorem dX2_closeVote_5 : decode cX2_closeVote 5 = .ok (.iconst 1, 1) := by decide +kernel
theorem dX2_closeVote_6 : decode cX2_closeVote 6 = .ok (.if_icmp .ne 7, 3) := by decide +kernel
theorem dX2_closeVote_9 : decode cX2_closeVote 9 = .ok (.iconst 0, 1) := by decide +kernel
theorem dX2_closeVote_10 : decode cX2_closeVote 10 = .ok (.goto 4, 3) := by decide +kernel
theorem dX2_closeVote_13 : decode cX2_closeVote 13 = .ok (.iconst 1, 1) := by decide +kernel
theorem dX2_closeVote_14 : decode cX2_closeVote 14 = .ok (.putfield 20, 3) := by decide +kernel
theorem dX2_closeVote_17 : decode cX2_closeVote 17 = .ok (.aload_n 0, 1) := by decide +kernel
theorem dX2_closeVote_18 : decode cX2_closeVote 18 = .ok (.getfield 20, 3) := by decide +kernel
theorem dX2_closeVote_21 : decode cX2_closeVote 21 = .ok (.ifCond .le 5, 3) := by decide +kernel
theorem dX2_closeVote_24 : decode cX2_closeVote 24 = .ok (.iconst 0, 1) := by decide +kernel
theorem dX2_closeVote_25 : decode cX2_closeVote 25 = .ok (.ireturn, 1) := by decide +kernel
theorem dX2_closeVote_26 : decode cX2_closeVote 26 = .ok (.iconst (-1), 1) := by decide +kernel
theorem dX2_closeVote_27 : decode cX2_closeVote 27 = .ok (.istore_n 1, 1) := by decide +kernel
theorem dX2_closeVote_28 : decode cX2_closeVote 28 = .ok (.iconst 0, 1) := by decide +kernel
theorem dX2_closeVote_29 : decode cX2_closeVote 29 = .ok (.istore_n 2, 1) := by decide +kernel
theorem dX2_closeVote_30 : decode cX2_closeVote 30 = .ok (.iconst 0, 1) := by decide +kernel
theorem dX2_closeVote_31 : decode cX2_closeVote 31 = .ok (.istore_n 3, 1) := by decide +kernel
theorem dX2_closeVote_32 : decode cX2_closeVote 32 = .ok (.iload_n 3, 1) := by decide +kernel
theorem dX2_closeVote_33 : decode cX2_closeVote 33 = .ok (.aload_n 0, 1) := by decide +kernel
theorem dX2_closeVote_34 : decode cX2_closeVote 34 = .ok (.getfield 24, 3) := by decide +kernel
theorem dX2_closeVote_37 : decode cX2_closeVote 37 = .ok (.if_icmp .ge 51, 3) := by decide +kernel
theorem dX2_closeVote_40 : decode cX2_closeVote 40 = .ok (.aload_n 0, 1) := by decide +kernel
theorem dX2_closeVote_41 : decode cX2_closeVote 41 = .ok (.iload_n 3, 1) := by decide +kernel
theorem dX2_closeVote_42 : decode cX2_closeVote 42 = .ok (.invokevirtual 101, 3) := by decide +kernel
theorem dX2_closeVote_45 : decode cX2_closeVote 45 = .ok (.istore 4, 2) := by decide +kernel
theorem dX2_closeVote_47 : decode cX2_closeVote 47 = .ok (.iload 4, 2) := by decide +kernel
theorem dX2_closeVote_49 : decode cX2_closeVote 49 = .ok (.iload_n 2, 1) := by decide +kernel
theorem dX2_closeVote_50 : decode cX2_closeVote 50 = .ok (.if_icmp .le 7, 3) := by decide +kernel
theorem dX2_closeVote_53 : decode cX2_closeVote 53 = .ok (.iload_n 3, 1) := by decide +kernel
theorem dX2_closeVote_54 : decode cX2_closeVote 54 = .ok (.goto 14, 3) := by decide +kernel
theorem dX2_closeVote_57 : decode cX2_closeVote 57 = .ok (.iload 4, 2) := by decide +kernel
theorem dX2_closeVote_59 : decode cX2_closeVote 59 = .ok (.iload_n 2, 1) := by decide +kernel
theorem dX2_closeVote_60 : decode cX2_closeVote 60 = .ok (.if_icmp .ne 7, 3) := by decide +kernel
theorem dX2_closeVote_63 : decode cX2_closeVote 63 = .ok (.iconst (-1), 1) := by decide +kernel
theorem dX2_closeVote_64 : decode cX2_closeVote 64 = .ok (.goto 4, 3) := by decide +kernel
theorem dX2_closeVote_67 : decode cX2_closeVote 67 = .ok (.iload_n 1, 1) := by decide +kernel
theorem dX2_closeVote_68 : decode cX2_closeVote 68 = .ok (.istore_n 1, 1) := by decide +kernel
theorem dX2_closeVote_69 : decode cX2_closeVote 69 = .ok (.iload 4, 2) := by decide +kernel
theorem dX2_closeVote_71 : decode cX2_closeVote 71 = .ok (.iload_n 2, 1) := by decide +kernel
theorem dX2_closeVote_72 : decode cX2_closeVote 72 = .ok (.if_icmp .le 8, 3) := by decide +kernel
theorem dX2_closeVote_75 : decode cX2_closeVote 75 = .ok (.iload 4, 2) := by decide +kernel
theorem dX2_closeVote_77 : decode cX2_closeVote 77 = .ok (.goto 4, 3) := by decide +kernel
theorem dX2_closeVote_80 : decode cX2_closeVote 80 = .ok (.iload_n 2, 1) := by decide +kernel
theorem dX2_closeVote_81 : decode cX2_closeVote 81 = .ok (.istore_n 2, 1) := by decide +kernel
theorem dX2_closeVote_82 : decode cX2_closeVote 82 = .ok (.iinc 3 1, 3) := by decide +kernel
theorem dX2_closeVote_85 : decode cX2_closeVote 85 = .ok (.goto (-53), 3) := by decide +kernel
theorem dX2_closeVote_88 : decode cX2_closeVote 88 = .ok (.aload_n 0, 1) := by decide +kernel
theorem dX2_closeVote_89 : decode cX2_closeVote 89 = .ok (.invokevirtual 79, 3) := by decide +kernel
theorem dX2_closeVote_92 : decode cX2_closeVote 92 = .ok (.iload_n 1, 1) := by decide +kernel
theorem dX2_closeVote_93 : decode cX2_closeVote 93 = .ok (.iconst (-1), 1) := by decide +kernel
theorem dX2_closeVote_94 : decode cX2_closeVote 94 = .ok (.if_icmp .eq 8, 3) := by decide +kernel
theorem dX2_closeVote_97 : decode cX2_closeVote 97 = .ok (.aload_n 0, 1) := by decide +kernel
theorem dX2_closeVote_98 : decode cX2_closeVote 98 = .ok (.iload_n 1, 1) := by decide +kernel
theorem dX2_closeVote_99 : decode cX2_closeVote 99 = .ok (.invokevirtual 104, 3) := by decide +kernel
theorem dX2_closeVote_102 : decode cX2_closeVote 102 = .ok (.aload_n 0, 1) := by decide +kernel
theorem dX2_closeVote_103 : decode cX2_closeVote 103 = .ok (.aload_n 0, 1) := by decide +kernel
theorem dX2_closeVote_104 : decode cX2_closeVote 104 = .ok (.getfield 70, 3) := by decide +kernel
theorem dX2_closeVote_107 : decode cX2_closeVote 107 = .ok (.iconst 1, 1) := by decide +kernel
theorem dX2_closeVote_108 : decode cX2_closeVote 108 = .ok (.if_icmp .ne 7, 3) := by decide +kernel
theorem dX2_closeVote_111 : decode cX2_closeVote 111 = .ok (.iconst 2, 1) := by decide +kernel
theorem dX2_closeVote_112 : decode cX2_closeVote 112 = .ok (.goto 7, 3) := by decide +kernel
theorem dX2_closeVote_115 : decode cX2_closeVote 115 = .ok (.aload_n 0, 1) := by decide +kernel
theorem dX2_closeVote_116 : decode cX2_closeVote 116 = .ok (.getfield 70, 3) := by decide +kernel
theorem dX2_closeVote_119 : decode cX2_closeVote 119 = .ok (.putfield 70, 3) := by decide +kernel
theorem dX2_closeVote_122 : decode cX2_closeVote 122 = .ok (.iload_n 1, 1) := by decide +kernel
theorem dX2_closeVote_123 : decode cX2_closeVote 123 = .ok (.ireturn, 1) := by decide +kernel
set_option maxRecDepth 20000 in
theorem ggX2_protect_X2_has : GoodIn wsX2_protect wsX2_has := goodIn_r _ [10] (by decide +kernel) (by decide +kernel)
set_option maxRecDepth 20000 in
theorem gX2_protect_X2_has : GoodIn wsX2_protect (va_wsS RX2 39 yX2_has wsX2_has) := goodIn_app (goodIn_of _ (by decide +kernel)) ggX2_protect_X2_has
set_option maxRecDepth 20000 in
theorem ggX2_protect_X2_isPlayer : GoodIn wsX2_protect wsX2_isPlayer := goodIn_r _ [14, 15, 16, 17, 9, 18, 19, 20, 21, 22, 23, 24, 25, 26, 27, 28, 29, 30, 31, 32, 33, 34] (by decide +kernel) (by decide +kernel)
set_option maxRecDepth 20000 in
theorem gX2_protect_X2_isPlayer : GoodIn wsX2_protect (wsV RX2 31 RX2 yX2_isPlayer wsX2_isPlayer) := goodIn_app (goodIn_of _ (by decide +kernel)) ggX2_protect_X2_isPlayer
theorem dX2_protect_0 : decode cX2_protect 0 = .ok (.aload_n 0, 1) := by decide +kernel
theorem dX2_protect_1 : decode cX2_protect 1 = .ok (.aload_n 0, 1) := by decide +kernel
theorem dX2_protect_2 : decode cX2_protect 2 = .ok (.getfield 70, 3) := by decide +kernel
theorem dX2_protect_5 : decode cX2_protect 5 = .ok (.iconst 2, 1) := by decide +kernel
theorem dX2_protect_6 : decode cX2_protect 6 = .ok (.if_icmp .ne 17, 3) := by decide +kernel
theorem dX2_protect_9 : decode cX2_protect 9 = .ok (.aload_n 0, 1) := by decide +kernel
theorem dX2_protect_10 : decode cX2_protect 10 = .ok (.getfield 67, 3) := by decide +kernel
theorem dX2_protect_13 : decode cX2_protect 13 = .ok (.aload_n 0, 1) := by decide +kernel
theorem dX2_protect_14 : decode cX2_protect 14 = .ok (.getfield 49, 3) := by decide +kernel
theorem dX2_protect_17 : decode cX2_protect 17 = .ok (.invokestatic 39, 3) := by decide +kernel
theorem dX2_protect_20 : decode cX2_protect 20 = .ok (.ifCond .ne 7, 3) := by decide +kernel
theorem dX2_protect_23 : decode cX2_protect 23 = .ok (.iconst 1, 1) := by decide +kernel
theorem dX2_protect_24 : decode cX2_protect 24 = .ok (.goto 39, 3) := by decide +kernel
theorem dX2_protect_27 : decode cX2_protect 27 = .ok (.aload_n 0, 1) := by decide +kernel
theorem dX2_protect_28 : decode cX2_protect 28 = .ok (.iload_n 1, 1) := by decide +kernel
theorem dX2_protect_29 : decode cX2_protect 29 = .ok (.invokevirtual 31, 3) := by decide +kernel
theorem dX2_protect_32 : decode cX2_protect 32 = .ok (.ifCond .ne 7, 3) := by decide +kernel
theorem dX2_protect_35 : decode cX2_protect 35 = .ok (.iconst 2, 1) := by decide +kernel
theorem dX2_protect_36 : decode cX2_protect 36 = .ok (.goto 27, 3) := by decide +kernel
theorem dX2_protect_39 : decode cX2_protect 39 = .ok (.aload_n 0, 1) := by decide +kernel
theorem dX2_protect_40 : decode cX2_protect 40 = .ok (.getfield 67, 3) := by decide +kernel
theorem dX2_protect_43 : decode cX2_protect 43 = .ok (.iload_n 1, 1) := by decide +kernel
theorem dX2_protect_44 : decode cX2_protect 44 = .ok (.invokestatic 39, 3) := by decide +kernel
theorem dX2_protect_47 : decode cX2_protect 47 = .ok (.ifCond .eq 11, 3) := by decide +kernel
theorem dX2_protect_50 : decode cX2_protect 50 = .ok (.iload_n 1, 1) := by decide +kernel
theorem dX2_protect_51 : decode cX2_protect 51 = .ok (.aload_n 0, 1) := by decide +kernel
theorem dX2_protect_52 : decode cX2_protect 52 = .ok (.getfield 76, 3) := by decide +kernel
theorem dX2_protect_55 : decode cX2_protect 55 = .ok (.if_icmp .ne 7, 3) := by decide +kernel
theorem dX2_protect_58 : decode cX2_protect 58 = .ok (.iconst 3, 1) := by decide +kernel
theorem dX2_protect_59 : decode cX2_protect 59 = .ok (.goto 4, 3) := by decide +kernel
theorem dX2_protect_62 : decode cX2_protect 62 = .ok (.iconst 0, 1) := by decide +kernel
theorem dX2_protect_63 : decode cX2_protect 63 = .ok (.putfield 20, 3) := by decide +kernel
theorem dX2_protect_66 : decode cX2_protect 66 = .ok (.aload_n 0, 1) := by decide +kernel
theorem dX2_protect_67 : decode cX2_protect 67 = .ok (.getfield 20, 3) := by decide +kernel
theorem dX2_protect_70 : decode cX2_protect 70 = .ok (.ifCond .le 5, 3) := by decide +kernel
theorem dX2_protect_73 : decode cX2_protect 73 = .ok (.iconst 0, 1) := by decide +kernel
theorem dX2_protect_74 : decode cX2_protect 74 = .ok (.ireturn, 1) := by decide +kernel
theorem dX2_protect_75 : decode cX2_protect 75 = .ok (.aload_n 0, 1) := by decide +kernel
theorem dX2_protect_76 : decode cX2_protect 76 = .ok (.getfield 85, 3) := by decide +kernel
theorem dX2_protect_79 : decode cX2_protect 79 = .ok (.istore_n 2, 1) := by decide +kernel
theorem dX2_protect_80 : decode cX2_protect 80 = .ok (.aload_n 0, 1) := by decide +kernel
theorem dX2_protect_81 : decode cX2_protect 81 = .ok (.iload_n 1, 1) := by decide +kernel
theorem dX2_protect_82 : decode cX2_protect 82 = .ok (.putfield 85, 3) := by decide +kernel
theorem dX2_protect_85 : decode cX2_protect 85 = .ok (.iload_n 2, 1) := by decide +kernel
theorem dX2_protect_86 : decode cX2_protect 86 = .ok (.ireturn, 1) := by decide +kernel
set_option maxRecDepth 20000 in
theorem ggX2_attack_X2_isPlayer : GoodIn wsX2_attack wsX2_isPlayer := goodIn_r _ [10, 11, 12, 13, 9, 14, 18, 19, 20, 21, 22, 23, 24, 25, 26, 27, 28, 29, 30, 31, 32, 33] (by decide +kernel) (by decide +kernel)
set_option maxRecDepth 20000 in
theorem gX2_attack_X2_isPlayer : GoodIn wsX2_attack (wsV RX2 31 RX2 yX2_isPlayer wsX2_isPlayer) := goodIn_app (goodIn_of _ (by decide +kernel)) ggX2_attack_X2_isPlayer
set_option maxRecDepth 20000 in
theorem ggX2_attack_X2_has : GoodIn wsX2_attack wsX2_has := goodIn_r _ [17] (by decide +kernel) (by decide +kernel)
set_option maxRecDepth 20000 in
theorem gX2_attack_X2_has : GoodIn wsX2_attack (va_wsS RX2 39 yX2_has wsX2_has) := goodIn_app (goodIn_of _ (by decide +kernel)) ggX2_attack_X2_has
theorem dX2_attack_0 : decode cX2_attack 0 = .ok (.aload_n 0, 1) := by decide +kernel
theorem dX2_attack_1 : decode cX2_attack 1 = .ok (.aload_n 0, 1) := by decide +kernel
theorem dX2_attack_2 : decode cX2_attack 2 = .ok (.getfield 70, 3) := by decide +kernel
theorem dX2_attack_5 : decode cX2_attack 5 = .ok (.iconst 2, 1) := by decide +kernel
theorem dX2_attack_6 : decode cX2_attack 6 = .ok (.if_icmp .eq 7, 3) := by decide +kernel
theorem dX2_attack_9 : decode cX2_attack 9 = .ok (.iconst 1, 1) := by decide +kernel
theorem dX2_attack_10 : decode cX2_attack 10 = .ok (.goto 42, 3) := by decide +kernel
theorem dX2_attack_13 : decode cX2_attack 13 = .ok (.aload_n 0, 1) := by decide +kernel
theorem dX2_attack_14 : decode cX2_attack 14 = .ok (.iload_n 1, 1) := by decide +kernel
theorem dX2_attack_15 : decode cX2_attack 15 = .ok (.invokevirtual 31, 3) := by decide +kernel
theorem dX2_attack_18 : decode cX2_attack 18 = .ok (.ifCond .ne 7, 3) := by decide +kernel
theorem dX2_attack_21 : decode cX2_attack 21 = .ok (.iconst 2, 1) := by decide +kernel
theorem dX2_attack_22 : decode cX2_attack 22 = .ok (.goto 30, 3) := by decide +kernel
theorem dX2_attack_25 : decode cX2_attack 25 = .ok (.aload_n 0, 1) := by decide +kernel
theorem dX2_attack_26 : decode cX2_attack 26 = .ok (.getfield 67, 3) := by decide +kernel
theorem dX2_attack_29 : decode cX2_attack 29 = .ok (.iload_n 1, 1) := by decide +kernel
theorem dX2_attack_30 : decode cX2_attack 30 = .ok (.invokestatic 39, 3) := by decide +kernel
theorem dX2_attack_33 : decode cX2_attack 33 = .ok (.ifCond .eq 14, 3) := by decide +kernel
theorem dX2_attack_36 : decode cX2_attack 36 = .ok (.aload_n 0, 1) := by decide +kernel
theorem dX2_attack_37 : decode cX2_attack 37 = .ok (.getfield 43, 3) := by decide +kernel
theorem dX2_attack_40 : decode cX2_attack 40 = .ok (.iload_n 1, 1) := by decide +kernel
theorem dX2_attack_41 : decode cX2_attack 41 = .ok (.invokestatic 39, 3) := by decide +kernel
theorem dX2_attack_44 : decode cX2_attack 44 = .ok (.ifCond .eq 7, 3) := by decide +kernel
theorem dX2_attack_47 : decode cX2_attack 47 = .ok (.iconst 3, 1) := by decide +kernel
theorem dX2_attack_48 : decode cX2_attack 48 = .ok (.goto 4, 3) := by decide +kernel
theorem dX2_attack_51 : decode cX2_attack 51 = .ok (.iconst 0, 1) := by decide +kernel
theorem dX2_attack_52 : decode cX2_attack 52 = .ok (.putfield 20, 3) := by decide +kernel
theorem dX2_attack_55 : decode cX2_attack 55 = .ok (.aload_n 0, 1) := by decide +kernel
theorem dX2_attack_56 : decode cX2_attack 56 = .ok (.getfield 20, 3) := by decide +kernel
theorem dX2_attack_59 : decode cX2_attack 59 = .ok (.ifCond .le 5, 3) := by decide +kernel
theorem dX2_attack_62 : decode cX2_attack 62 = .ok (.iconst 0, 1) := by decide +kernel
theorem dX2_attack_63 : decode cX2_attack 63 = .ok (.ireturn, 1) := by decide +kernel
theorem dX2_attack_64 : decode cX2_attack 64 = .ok (.aload_n 0, 1) := by decide +kernel
theorem dX2_attack_65 : decode cX2_attack 65 = .ok (.getfield 88, 3) := by decide +kernel
theorem dX2_attack_68 : decode cX2_attack 68 = .ok (.istore_n 2, 1) := by decide +kernel
theorem dX2_attack_69 : decode cX2_attack 69 = .ok (.aload_n 0, 1) := by decide +kernel
theorem dX2_attack_70 : decode cX2_attack 70 = .ok (.iload_n 1, 1) := by decide +kernel
theorem dX2_attack_71 : decode cX2_attack 71 = .ok (.putfield 88, 3) := by decide +kernel
theorem dX2_attack_74 : decode cX2_attack 74 = .ok (.iload_n 2, 1) := by decide +kernel
theorem dX2_attack_75 : decode cX2_attack 75 = .ok (.ireturn, 1) := by decide +kernel
set_option maxRecDepth 20000 in
theorem ggX2_look_X2_has : GoodIn wsX2_look wsX2_has := goodIn_r _ [9] (by decide +kernel) (by decide +kernel)
set_option maxRecDepth 20000 in
theorem gX2_look_X2_has : GoodIn wsX2_look (va_wsS RX2 39 yX2_has wsX2_has) := goodIn_app (goodIn_of _ (by decide +kernel)) ggX2_look_X2_has
set_option maxRecDepth 20000 in
theorem ggX2_look_X2_isPlayer : GoodIn wsX2_look wsX2_isPlayer := goodIn_r _ [13, 14, 15, 16, 8, 17, 18, 19, 20, 21, 22, 23, 24, 25, 26, 27, 28, 29, 30, 31, 32, 33] (by decide +kernel) (by decide +kernel)
set_option maxRecDepth 20000 in
theorem gX2_look_X2_isPlayer : GoodIn wsX2_look (wsV RX2 31 RX2 yX2_isPlayer wsX2_isPlayer) := goodIn_app (goodIn_of _ (by decide +kernel)) ggX2_look_X2_isPlayer
theorem dX2_look_0 : decode cX2_look 0 = .ok (.aload_n 0, 1) := by decide +kernel
theorem dX2_look_1 : decode cX2_look 1 = .ok (.aload_n 0, 1) := by decide +kernel
theorem dX2_look_2 : decode cX2_look 2 = .ok (.getfield 70, 3) := by decide +kernel
theorem dX2_look_5 : decode cX2_look 5 = .ok (.iconst 2, 1) := by decide +kernel
theorem dX2_look_6 : decode cX2_look 6 = .ok (.if_icmp .ne 17, 3) := by decide +kernel
theorem dX2_look_9 : decode cX2_look 9 = .ok (.aload_n 0, 1) := by decide +kernel
theorem dX2_look_10 : decode cX2_look 10 = .ok (.getfield 67, 3) := by decide +kernel
theorem dX2_look_13 : decode cX2_look 13 = .ok (.aload_n 0, 1) := by decide +kernel
theorem dX2_look_14 : decode cX2_look 14 = .ok (.getfield 46, 3) := by decide +kernel
theorem dX2_look_17 : decode cX2_look 17 = .ok (.invokestatic 39, 3) := by decide +kernel
theorem dX2_look_20 : decode cX2_look 20 = .ok (.ifCond .ne 7, 3) := by decide +kernel
theorem dX2_look_23 : decode cX2_look 23 = .ok (.iconst 1, 1) := by decide +kernel
theorem dX2_look_24 : decode cX2_look 24 = .ok (.goto 39, 3) := by decide +kernel
theorem dX2_look_27 : decode cX2_look 27 = .ok (.aload_n 0, 1) := by decide +kernel
theorem dX2_look_28 : decode cX2_look 28 = .ok (.iload_n 1, 1) := by decide +kernel
theorem dX2_look_29 : decode cX2_look 29 = .ok (.invokevirtual 31, 3) := by decide +kernel
theorem dX2_look_32 : decode cX2_look 32 = .ok (.ifCond .ne 7, 3) := by decide +kernel
theorem dX2_look_35 : decode cX2_look 35 = .ok (.iconst 2, 1) := by decide +kernel
theorem dX2_look_36 : decode cX2_look 36 = .ok (.goto 27, 3) := by decide +kernel
theorem dX2_look_39 : decode cX2_look 39 = .ok (.aload_n 0, 1) := by decide +kernel
theorem dX2_look_40 : decode cX2_look 40 = .ok (.getfield 67, 3) := by decide +kernel
theorem dX2_look_43 : decode cX2_look 43 = .ok (.iload_n 1, 1) := by decide +kernel
theorem dX2_look_44 : decode cX2_look 44 = .ok (.invokestatic 39, 3) := by decide +kernel
theorem dX2_look_47 : decode cX2_look 47 = .ok (.ifCond .eq 11, 3) := by decide +kernel
theorem dX2_look_50 : decode cX2_look 50 = .ok (.iload_n 1, 1) := by decide +kernel
theorem dX2_look_51 : decode cX2_look 51 = .ok (.aload_n 0, 1) := by decide +kernel
theorem dX2_look_52 : decode cX2_look 52 = .ok (.getfield 46, 3) := by decide +kernel
theorem dX2_look_55 : decode cX2_look 55 = .ok (.if_icmp .ne 7, 3) := by decide +kernel
theorem dX2_look_58 : decode cX2_look 58 = .ok (.iconst 3, 1) := by decide +kernel
theorem dX2_look_59 : decode cX2_look 59 = .ok (.goto 4, 3) := by decide +kernel
theorem dX2_look_62 : decode cX2_look 62 = .ok (.iconst 0, 1) := by decide +kernel
theorem dX2_look_63 : decode cX2_look 63 = .ok (.putfield 20, 3) := by decide +kernel
theorem dX2_look_66 : decode cX2_look 66 = .ok (.aload_n 0, 1) := by decide +kernel
theorem dX2_look_67 : decode cX2_look 67 = .ok (.getfield 20, 3) := by decide +kernel
theorem dX2_look_70 : decode cX2_look 70 = .ok (.ifCond .le 5, 3) := by decide +kernel
theorem dX2_look_73 : decode cX2_look 73 = .ok (.iconst 0, 1) := by decide +kernel
theorem dX2_look_74 : decode cX2_look 74 = .ok (.ireturn, 1) := by decide +kernel
theorem dX2_look_75 : decode cX2_look 75 = .ok (.aload_n 0, 1) := by decide +kernel
theorem dX2_look_76 : decode cX2_look 76 = .ok (.getfield 91, 3) := by decide +kernel
theorem dX2_look_79 : decode cX2_look 79 = .ok (.istore_n 2, 1) := by decide +kernel
theorem dX2_look_80 : decode cX2_look 80 = .ok (.aload_n 0, 1) := by decide +kernel
theorem dX2_look_81 : decode cX2_look 81 = .ok (.iload_n 1, 1) := by decide +kernel
theorem dX2_look_82 : decode cX2_look 82 = .ok (.putfield 91, 3) := by decide +kernel
theorem dX2_look_85 : decode cX2_look 85 = .ok (.iload_n 2, 1) := by decide +kernel
theorem dX2_look_86 : decode cX2_look 86 = .ok (.ireturn, 1) := by decide +kernel
set_option maxRecDepth 20000 in
theorem ggX2_endNight_X2_dies : GoodIn wsX2_endNight wsX2_dies := goodIn_r _ [15, 6, 16, 17, 1, 18, 19, 20, 14, 21, 7, 22, 23, 24, 25, 26, 27, 28, 29, 30, 31, 37, 38, 39, 40, 41, 42, 43, 44, 45, 46, 47, 48, 49, 50, 51, 52] (by decide +kernel) (by decide +kernel)
set_option maxRecDepth 20000 in
theorem gX2_endNight_X2_dies : GoodIn wsX2_endNight (wsV RX2 104 RX2 yX2_dies wsX2_dies) := goodIn_app (goodIn_of _ (by decide +kernel)) ggX2_endNight_X2_dies
set_option maxRecDepth 20000 in
theorem ggX2_endNight_X2_has : GoodIn wsX2_endNight wsX2_has := goodIn_r _ [28] (by decide +kernel) (by decide +kernel)
set_option maxRecDepth 20000 in
theorem gX2_endNight_X2_has : GoodIn wsX2_endNight (va_wsS RX2 39 yX2_has wsX2_has) := goodIn_app (goodIn_of _ (by decide +kernel)) ggX2_endNight_X2_has
set_option maxRecDepth 20000 in
theorem ggX2_endNight_X2_forgets : GoodIn wsX2_endNight wsX2_forgets := goodIn_r _ [35, 36, 4, 3, 8, 37, 38, 39, 40, 41, 42, 43, 44, 45, 46, 47, 48, 49, 50, 51, 52] (by decide +kernel) (by decide +kernel)
set_option maxRecDepth 20000 in
theorem gX2_endNight_X2_forgets : GoodIn wsX2_endNight (wsV RX2 79 RX2 yX2_forgets wsX2_forgets) := goodIn_app (goodIn_of _ (by decide +kernel)) ggX2_endNight_X2_forgets
theorem dX2_endNight_0 : decode cX2_endNight 0 = .ok (.aload_n 0, 1) := by decide +kernel
theorem dX2_endNight_1 : decode cX2_endNight 1 = .ok (.aload_n 0, 1) := by decide +kernel
theorem dX2_endNight_2 : decode cX2_endNight 2 = .ok (.getfield 70, 3) := by decide +kernel
theorem dX2_endNight_5 : decode cX2_endNight 5 = .ok (.iconst 2, 1) := by decide +kernel
theorem dX2_endNight_6 : decode cX2_endNight 6 = .ok (.if_icmp .ne 7, 3) := by decide +kernel
theorem dX2_endNight_9 : decode cX2_endNight 9 = .ok (.iconst 0, 1) := by decide +kernel
theorem dX2_endNight_10 : decode cX2_endNight 10 = .ok (.goto 4, 3) := by decide +kernel
theorem dX2_endNight_13 : decode cX2_endNight 13 = .ok (.iconst 1, 1) := by decide +kernel
theorem dX2_endNight_14 : decode cX2_endNight 14 = .ok (.putfield 20, 3) := by decide +kernel
theorem dX2_endNight_17 : decode cX2_endNight 17 = .ok (.aload_n 0, 1) := by decide +kernel
theorem dX2_endNight_18 : decode cX2_endNight 18 = .ok (.getfield 20, 3) := by decide +kernel
theorem dX2_endNight_21 : decode cX2_endNight 21 = .ok (.ifCond .le 5, 3) := by decide +kernel
theorem dX2_endNight_24 : decode cX2_endNight 24 = .ok (.iconst 0, 1) := by decide +kernel
theorem dX2_endNight_25 : decode cX2_endNight 25 = .ok (.ireturn, 1) := by decide +kernel
theorem dX2_endNight_26 : decode cX2_endNight 26 = .ok (.aload_n 0, 1) := by decide +kernel
theorem dX2_endNight_27 : decode cX2_endNight 27 = .ok (.getfield 88, 3) := by decide +kernel
theorem dX2_endNight_30 : decode cX2_endNight 30 = .ok (.aload_n 0, 1) := by decide +kernel
theorem dX2_endNight_31 : decode cX2_endNight 31 = .ok (.getfield 85, 3) := by decide +kernel
theorem dX2_endNight_34 : decode cX2_endNight 34 = .ok (.if_icmp .ne 7, 3) := by decide +kernel
theorem dX2_endNight_37 : decode cX2_endNight 37 = .ok (.iconst (-1), 1) := by decide +kernel
theorem dX2_endNight_38 : decode cX2_endNight 38 = .ok (.goto 7, 3) := by decide +kernel
theorem dX2_endNight_41 : decode cX2_endNight 41 = .ok (.aload_n 0, 1) := by decide +kernel
theorem dX2_endNight_42 : decode cX2_endNight 42 = .ok (.getfield 88, 3) := by decide +kernel
theorem dX2_endNight_45 : decode cX2_endNight 45 = .ok (.istore_n 1, 1) := by decide +kernel
theorem dX2_endNight_46 : decode cX2_endNight 46 = .ok (.iload_n 1, 1) := by decide +kernel
theorem dX2_endNight_47 : decode cX2_endNight 47 = .ok (.iconst (-1), 1) := by decide +kernel
theorem dX2_endNight_48 : decode cX2_endNight 48 = .ok (.if_icmp .eq 8, 3) := by decide +kernel
theorem dX2_endNight_51 : decode cX2_endNight 51 = .ok (.aload_n 0, 1) := by decide +kernel
theorem dX2_endNight_52 : decode cX2_endNight 52 = .ok (.iload_n 1, 1) := by decide +kernel
theorem dX2_endNight_53 : decode cX2_endNight 53 = .ok (.invokevirtual 104, 3) := by decide +kernel
theorem dX2_endNight_56 : decode cX2_endNight 56 = .ok (.aload_n 0, 1) := by decide +kernel
theorem dX2_endNight_57 : decode cX2_endNight 57 = .ok (.getfield 70, 3) := by decide +kernel
theorem dX2_endNight_60 : decode cX2_endNight 60 = .ok (.iconst 2, 1) := by decide +kernel
theorem dX2_endNight_61 : decode cX2_endNight 61 = .ok (.if_icmp .ne 59, 3) := by decide +kernel
theorem dX2_endNight_64 : decode cX2_endNight 64 = .ok (.aload_n 0, 1) := by decide +kernel
theorem dX2_endNight_65 : decode cX2_endNight 65 = .ok (.dup, 1) := by decide +kernel
theorem dX2_endNight_66 : decode cX2_endNight 66 = .ok (.getfield 60, 3) := by decide +kernel
theorem dX2_endNight_69 : decode cX2_endNight 69 = .ok (.aload_n 0, 1) := by decide +kernel
theorem dX2_endNight_70 : decode cX2_endNight 70 = .ok (.getfield 67, 3) := by decide +kernel
theorem dX2_endNight_73 : decode cX2_endNight 73 = .ok (.aload_n 0, 1) := by decide +kernel
theorem dX2_endNight_74 : decode cX2_endNight 74 = .ok (.getfield 46, 3) := by decide +kernel
theorem dX2_endNight_77 : decode cX2_endNight 77 = .ok (.invokestatic 39, 3) := by decide +kernel
theorem dX2_endNight_80 : decode cX2_endNight 80 = .ok (.ifCond .eq 20, 3) := by decide +kernel
theorem dX2_endNight_83 : decode cX2_endNight 83 = .ok (.aload_n 0, 1) := by decide +kernel
theorem dX2_endNight_84 : decode cX2_endNight 84 = .ok (.getfield 91, 3) := by decide +kernel
theorem dX2_endNight_87 : decode cX2_endNight 87 = .ok (.iconst (-1), 1) := by decide +kernel
theorem dX2_endNight_88 : decode cX2_endNight 88 = .ok (.if_icmp .eq 12, 3) := by decide +kernel
theorem dX2_endNight_91 : decode cX2_endNight 91 = .ok (.iconst 1, 1) := by decide +kernel
theorem dX2_endNight_92 : decode cX2_endNight 92 = .ok (.aload_n 0, 1) := by decide +kernel
theorem dX2_endNight_93 : decode cX2_endNight 93 = .ok (.getfield 91, 3) := by decide +kernel
theorem dX2_endNight_96 : decode cX2_endNight 96 = .ok (.ishl, 1) := by decide +kernel
theorem dX2_endNight_97 : decode cX2_endNight 97 = .ok (.goto 4, 3) := by decide +kernel
theorem dX2_endNight_100 : decode cX2_endNight 100 = .ok (.iconst 0, 1) := by decide +kernel
theorem dX2_endNight_101 : decode cX2_endNight 101 = .ok (.ior, 1) := by decide +kernel
theorem dX2_endNight_102 : decode cX2_endNight 102 = .ok (.putfield 60, 3) := by decide +kernel
theorem dX2_endNight_105 : decode cX2_endNight 105 = .ok (.aload_n 0, 1) := by decide +kernel
theorem dX2_endNight_106 : decode cX2_endNight 106 = .ok (.iconst 1, 1) := by decide +kernel
theorem dX2_endNight_107 : decode cX2_endNight 107 = .ok (.putfield 70, 3) := by decide +kernel
theorem dX2_endNight_110 : decode cX2_endNight 110 = .ok (.aload_n 0, 1) := by decide +kernel
theorem dX2_endNight_111 : decode cX2_endNight 111 = .ok (.dup, 1) := by decide +kernel
theorem dX2_endNight_112 : decode cX2_endNight 112 = .ok (.getfield 73, 3) := by decide +kernel
theorem dX2_endNight_115 : decode cX2_endNight 115 = .ok (.iconst 1, 1) := by decide +kernel
theorem dX2_endNight_116 : decode cX2_endNight 116 = .ok (.iadd, 1) := by decide +kernel
theorem dX2_endNight_117 : decode cX2_endNight 117 = .ok (.putfield 73, 3) := by decide +kernel
theorem dX2_endNight_120 : decode cX2_endNight 120 = .ok (.aload_n 0, 1) := by decide +kernel
theorem dX2_endNight_121 : decode cX2_endNight 121 = .ok (.aload_n 0, 1) := by decide +kernel
theorem dX2_endNight_122 : decode cX2_endNight 122 = .ok (.getfield 85, 3) := by decide +kernel
theorem dX2_endNight_125 : decode cX2_endNight 125 = .ok (.putfield 76, 3) := by decide +kernel
theorem dX2_endNight_128 : decode cX2_endNight 128 = .ok (.aload_n 0, 1) := by decide +kernel
theorem dX2_endNight_129 : decode cX2_endNight 129 = .ok (.invokevirtual 79, 3) := by decide +kernel
theorem dX2_endNight_132 : decode cX2_endNight 132 = .ok (.iload_n 1, 1) := by decide +kernel
theorem dX2_endNight_133 : decode cX2_endNight 133 = .ok (.ireturn, 1) := by decide +kernel
theorem dX2_isGame_0 : decode cX2_isGame 0 = .ok (.aload_n 0, 1) := by decide +kernel
theorem dX2_isGame_1 : decode cX2_isGame 1 = .ok (.aload_n 0, 1) := by decide +kernel
theorem dX2_isGame_2 : decode cX2_isGame 2 = .ok (.getfield 70, 3) := by decide +kernel
theorem dX2_isGame_5 : decode cX2_isGame 5 = .ok (.ifCond .ne 7, 3) := by decide +kernel
theorem dX2_isGame_8 : decode cX2_isGame 8 = .ok (.iconst 1, 1) := by decide +kernel
theorem dX2_isGame_9 : decode cX2_isGame 9 = .ok (.goto 4, 3) := by decide +kernel
theorem dX2_isGame_12 : decode cX2_isGame 12 = .ok (.iconst 0, 1) := by decide +kernel
theorem dX2_isGame_13 : decode cX2_isGame 13 = .ok (.putfield 20, 3) := by decide +kernel
theorem dX2_isGame_16 : decode cX2_isGame 16 = .ok (.aload_n 0, 1) := by decide +kernel
theorem dX2_isGame_17 : decode cX2_isGame 17 = .ok (.getfield 20, 3) := by decide +kernel
theorem dX2_isGame_20 : decode cX2_isGame 20 = .ok (.ifCond .ne 7, 3) := by decide +kernel
theorem dX2_isGame_23 : decode cX2_isGame 23 = .ok (.iconst 1, 1) := by decide +kernel
theorem dX2_isGame_24 : decode cX2_isGame 24 = .ok (.goto 4, 3) := by decide +kernel
theorem dX2_isGame_27 : decode cX2_isGame 27 = .ok (.iconst 0, 1) := by decide +kernel
theorem dX2_isGame_28 : decode cX2_isGame 28 = .ok (.ireturn, 1) := by decide +kernel
set_option maxRecDepth 20000 in
theorem ggX2_day_X2_isGame : GoodIn wsX2_day wsX2_isGame := goodIn_r _ [6, 7, 8, 9, 10, 11, 12, 13, 14, 15, 16, 17, 18, 19, 20, 21, 22, 23, 24] (by decide +kernel) (by decide +kernel)
set_option maxRecDepth 20000 in
theorem gX2_day_X2_isGame : GoodIn wsX2_day (wsV RX2 108 RX2 yX2_isGame wsX2_isGame) := goodIn_app (goodIn_of _ (by decide +kernel)) ggX2_day_X2_isGame
theorem dX2_day_0 : decode cX2_day 0 = .ok (.aload_n 0, 1) := by decide +kernel
theorem dX2_day_1 : decode cX2_day 1 = .ok (.invokevirtual 108, 3) := by decide +kernel
theorem dX2_day_4 : decode cX2_day 4 = .ok (.ifCond .eq 10, 3) := by decide +kernel
theorem dX2_day_7 : decode cX2_day 7 = .ok (.aload_n 0, 1) := by decide +kernel
theorem dX2_day_8 : decode cX2_day 8 = .ok (.getfield 73, 3) := by decide +kernel
theorem dX2_day_11 : decode cX2_day 11 = .ok (.goto 4, 3) := by decide +kernel
theorem dX2_day_14 : decode cX2_day 14 = .ok (.iconst 0, 1) := by decide +kernel
theorem dX2_day_15 : decode cX2_day 15 = .ok (.ireturn, 1) := by decide +kernel
set_option maxRecDepth 20000 in
theorem ggX2_alive_X2_isGame : GoodIn wsX2_alive wsX2_isGame := goodIn_r _ [6, 7, 8, 9, 10, 11, 12, 13, 14, 15, 16, 17, 18, 19, 20, 21, 22, 23, 24] (by decide +kernel) (by decide +kernel)
set_option maxRecDepth 20000 in
theorem gX2_alive_X2_isGame : GoodIn wsX2_alive (wsV RX2 108 RX2 yX2_isGame wsX2_isGame) := goodIn_app (goodIn_of _ (by decide +kernel)) ggX2_alive_X2_isGame
theorem dX2_alive_0 : decode cX2_alive 0 = .ok (.aload_n 0, 1) := by decide +kernel
theorem dX2_alive_1 : decode cX2_alive 1 = .ok (.invokevirtual 108, 3) := by decide +kernel
theorem dX2_alive_4 : decode cX2_alive 4 = .ok (.ifCond .eq 10, 3) := by decide +kernel
theorem dX2_alive_7 : decode cX2_alive 7 = .ok (.aload_n 0, 1) := by decide +kernel
theorem dX2_alive_8 : decode cX2_alive 8 = .ok (.getfield 67, 3) := by decide +kernel
theorem dX2_alive_11 : decode cX2_alive 11 = .ok (.goto 4, 3) := by decide +kernel
theorem dX2_alive_14 : decode cX2_alive 14 = .ok (.iconst 0, 1) := by decide +kernel
theorem dX2_alive_15 : decode cX2_alive 15 = .ok (.ireturn, 1) := by decide +kernel
set_option maxRecDepth 20000 in
theorem ggX2_votesFor_X2_isPlayer : GoodIn wsX2_votesFor wsX2_isPlayer := goodIn_r _ [7, 8, 9, 10, 6, 11, 17, 18, 19, 20, 21, 22, 23, 24, 25, 26, 27, 28, 29, 30, 31, 32] (by decide +kernel) (by decide +kernel)
set_option maxRecDepth 20000 in
theorem gX2_votesFor_X2_isPlayer : GoodIn wsX2_votesFor (wsV RX2 31 RX2 yX2_isPlayer wsX2_isPlayer) := goodIn_app (goodIn_of _ (by decide +kernel)) ggX2_votesFor_X2_isPlayer
set_option maxRecDepth 20000 in
theorem ggX2_votesFor_X2_manyVotes : GoodIn wsX2_votesFor wsX2_manyVotes := goodIn_r _ [15, 16, 17, 18, 19, 20, 21, 22, 23, 24, 25, 26, 27, 28, 29, 30, 31, 32] (by decide +kernel) (by decide +kernel)
set_option maxRecDepth 20000 in
theorem gX2_votesFor_X2_manyVotes : GoodIn wsX2_votesFor (wsV RX2 101 RX2 yX2_manyVotes wsX2_manyVotes) := goodIn_app (goodIn_of _ (by decide +kernel)) ggX2_votesFor_X2_manyVotes
theorem dX2_votesFor_0 : decode cX2_votesFor 0 = .ok (.aload_n 0, 1) := by decide +kernel
theorem dX2_votesFor_1 : decode cX2_votesFor 1 = .ok (.aload_n 0, 1) := by decide +kernel
theorem dX2_votesFor_2 : decode cX2_votesFor 2 = .ok (.getfield 70, 3) := by decide +kernel
theorem dX2_votesFor_5 : decode cX2_votesFor 5 = .ok (.ifCond .ne 7, 3) := by decide +kernel
theorem dX2_votesFor_8 : decode cX2_votesFor 8 = .ok (.iconst 1, 1) := by decide +kernel
theorem dX2_votesFor_9 : decode cX2_votesFor 9 = .ok (.goto 16, 3) := by decide +kernel
theorem dX2_votesFor_12 : decode cX2_votesFor 12 = .ok (.aload_n 0, 1) := by decide +kernel
theorem dX2_votesFor_13 : decode cX2_votesFor 13 = .ok (.iload_n 1, 1) := by decide +kernel
theorem dX2_votesFor_14 : decode cX2_votesFor 14 = .ok (.invokevirtual 31, 3) := by decide +kernel
theorem dX2_votesFor_17 : decode cX2_votesFor 17 = .ok (.ifCond .eq 7, 3) := by decide +kernel
theorem dX2_votesFor_20 : decode cX2_votesFor 20 = .ok (.iconst 0, 1) := by decide +kernel
theorem dX2_votesFor_21 : decode cX2_votesFor 21 = .ok (.goto 4, 3) := by decide +kernel
theorem dX2_votesFor_24 : decode cX2_votesFor 24 = .ok (.iconst 2, 1) := by decide +kernel
theorem dX2_votesFor_25 : decode cX2_votesFor 25 = .ok (.putfield 20, 3) := by decide +kernel
theorem dX2_votesFor_28 : decode cX2_votesFor 28 = .ok (.aload_n 0, 1) := by decide +kernel
theorem dX2_votesFor_29 : decode cX2_votesFor 29 = .ok (.getfield 20, 3) := by decide +kernel
theorem dX2_votesFor_32 : decode cX2_votesFor 32 = .ok (.ifCond .le 7, 3) := by decide +kernel
theorem dX2_votesFor_35 : decode cX2_votesFor 35 = .ok (.iconst 0, 1) := by decide +kernel
theorem dX2_votesFor_36 : decode cX2_votesFor 36 = .ok (.goto 8, 3) := by decide +kernel
theorem dX2_votesFor_39 : decode cX2_votesFor 39 = .ok (.aload_n 0, 1) := by decide +kernel
theorem dX2_votesFor_40 : decode cX2_votesFor 40 = .ok (.iload_n 1, 1) := by decide +kernel
theorem dX2_votesFor_41 : decode cX2_votesFor 41 = .ok (.invokevirtual 101, 3) := by decide +kernel
theorem dX2_votesFor_44 : decode cX2_votesFor 44 = .ok (.ireturn, 1) := by decide +kernel
set_option maxRecDepth 20000 in
theorem ggX2_lookedAt_X2_isGame : GoodIn wsX2_lookedAt wsX2_isGame := goodIn_r _ [6, 7, 8, 9, 10, 11, 12, 13, 14, 15, 16, 17, 18, 19, 20, 21, 22, 23, 24] (by decide +kernel) (by decide +kernel)
set_option maxRecDepth 20000 in
theorem gX2_lookedAt_X2_isGame : GoodIn wsX2_lookedAt (wsV RX2 108 RX2 yX2_isGame wsX2_isGame) := goodIn_app (goodIn_of _ (by decide +kernel)) ggX2_lookedAt_X2_isGame
theorem dX2_lookedAt_0 : decode cX2_lookedAt 0 = .ok (.aload_n 0, 1) := by decide +kernel
theorem dX2_lookedAt_1 : decode cX2_lookedAt 1 = .ok (.invokevirtual 108, 3) := by decide +kernel
theorem dX2_lookedAt_4 : decode cX2_lookedAt 4 = .ok (.ifCond .eq 10, 3) := by decide +kernel
theorem dX2_lookedAt_7 : decode cX2_lookedAt 7 = .ok (.aload_n 0, 1) := by decide +kernel
theorem dX2_lookedAt_8 : decode cX2_lookedAt 8 = .ok (.getfield 60, 3) := by decide +kernel
theorem dX2_lookedAt_11 : decode cX2_lookedAt 11 = .ok (.goto 4, 3) := by decide +kernel
theorem dX2_lookedAt_14 : decode cX2_lookedAt 14 = .ok (.iconst 0, 1) := by decide +kernel
theorem dX2_lookedAt_15 : decode cX2_lookedAt 15 = .ok (.ireturn, 1) := by decide +kernel
set_option maxRecDepth 20000 in
theorem ggX2_asks_X2_isViewer : GoodIn wsX2_asks wsX2_isViewer := goodIn_r _ [7, 8, 9, 10, 6, 11, 12, 13, 14, 15, 16, 17, 18, 19, 20, 21, 22, 23, 24, 25, 26, 27, 28, 29, 30, 31] (by decide +kernel) (by decide +kernel)
set_option maxRecDepth 20000 in
theorem gX2_asks_X2_isViewer : GoodIn wsX2_asks (wsV RX2 112 RX2 yX2_isViewer wsX2_isViewer) := goodIn_app (goodIn_of _ (by decide +kernel)) ggX2_asks_X2_isViewer
theorem dX2_asks_0 : decode cX2_asks 0 = .ok (.aload_n 0, 1) := by decide +kernel
theorem dX2_asks_1 : decode cX2_asks 1 = .ok (.aload_n 0, 1) := by decide +kernel
theorem dX2_asks_2 : decode cX2_asks 2 = .ok (.getfield 70, 3) := by decide +kernel
theorem dX2_asks_5 : decode cX2_asks 5 = .ok (.ifCond .ne 7, 3) := by decide +kernel
theorem dX2_asks_8 : decode cX2_asks 8 = .ok (.iconst 1, 1) := by decide +kernel
theorem dX2_asks_9 : decode cX2_asks 9 = .ok (.goto 16, 3) := by decide +kernel
theorem dX2_asks_12 : decode cX2_asks 12 = .ok (.aload_n 0, 1) := by decide +kernel
theorem dX2_asks_13 : decode cX2_asks 13 = .ok (.iload_n 1, 1) := by decide +kernel
theorem dX2_asks_14 : decode cX2_asks 14 = .ok (.invokevirtual 112, 3) := by decide +kernel
theorem dX2_asks_17 : decode cX2_asks 17 = .ok (.ifCond .eq 7, 3) := by decide +kernel
theorem dX2_asks_20 : decode cX2_asks 20 = .ok (.iconst 0, 1) := by decide +kernel
theorem dX2_asks_21 : decode cX2_asks 21 = .ok (.goto 4, 3) := by decide +kernel
theorem dX2_asks_24 : decode cX2_asks 24 = .ok (.iconst 2, 1) := by decide +kernel
theorem dX2_asks_25 : decode cX2_asks 25 = .ok (.putfield 20, 3) := by decide +kernel
theorem dX2_asks_28 : decode cX2_asks 28 = .ok (.aload_n 0, 1) := by decide +kernel
theorem dX2_asks_29 : decode cX2_asks 29 = .ok (.getfield 20, 3) := by decide +kernel
theorem dX2_asks_32 : decode cX2_asks 32 = .ok (.ifCond .ne 7, 3) := by decide +kernel
theorem dX2_asks_35 : decode cX2_asks 35 = .ok (.iconst 1, 1) := by decide +kernel
theorem dX2_asks_36 : decode cX2_asks 36 = .ok (.goto 4, 3) := by decide +kernel
theorem dX2_asks_39 : decode cX2_asks 39 = .ok (.iconst 0, 1) := by decide +kernel
theorem dX2_asks_40 : decode cX2_asks 40 = .ok (.ireturn, 1) := by decide +kernel
set_option maxRecDepth 20000 in
theorem ggX2_manyFor_X2_isFor : GoodIn wsX2_manyFor wsX2_isFor := goodIn_r _ [5, 6, 7, 8, 9, 10, 11, 4, 12, 13, 14, 15, 16, 17, 18, 19, 20, 21, 22, 23, 24, 25, 26, 27, 28, 29, 30, 31, 32, 33, 34, 35, 36] (by decide +kernel) (by decide +kernel)
set_option maxRecDepth 20000 in
theorem gX2_manyFor_X2_isFor : GoodIn wsX2_manyFor (wsV RX2 115 RX2 yX2_isFor wsX2_isFor) := goodIn_app (goodIn_of _ (by decide +kernel)) ggX2_manyFor_X2_isFor
theorem dX2_manyFor_0 : decode cX2_manyFor 0 = .ok (.iconst 0, 1) := by decide +kernel
theorem dX2_manyFor_1 : decode cX2_manyFor 1 = .ok (.istore_n 2, 1) := by decide +kernel
theorem dX2_manyFor_2 : decode cX2_manyFor 2 = .ok (.iconst 0, 1) := by decide +kernel
theorem dX2_manyFor_3 : decode cX2_manyFor 3 = .ok (.istore_n 3, 1) := by decide +kernel
theorem dX2_manyFor_4 : decode cX2_manyFor 4 = .ok (.iload_n 3, 1) := by decide +kernel
theorem dX2_manyFor_5 : decode cX2_manyFor 5 = .ok (.sipush 16384, 3) := by decide +kernel
theorem dX2_manyFor_8 : decode cX2_manyFor 8 = .ok (.if_icmp .ge 26, 3) := by decide +kernel
theorem dX2_manyFor_11 : decode cX2_manyFor 11 = .ok (.iload_n 2, 1) := by decide +kernel
theorem dX2_manyFor_12 : decode cX2_manyFor 12 = .ok (.aload_n 0, 1) := by decide +kernel
theorem dX2_manyFor_13 : decode cX2_manyFor 13 = .ok (.iload_n 1, 1) := by decide +kernel
theorem dX2_manyFor_14 : decode cX2_manyFor 14 = .ok (.iload_n 3, 1) := by decide +kernel
theorem dX2_manyFor_15 : decode cX2_manyFor 15 = .ok (.invokevirtual 115, 3) := by decide +kernel
theorem dX2_manyFor_18 : decode cX2_manyFor 18 = .ok (.ifCond .eq 7, 3) := by decide +kernel
theorem dX2_manyFor_21 : decode cX2_manyFor 21 = .ok (.iconst 1, 1) := by decide +kernel
theorem dX2_manyFor_22 : decode cX2_manyFor 22 = .ok (.goto 4, 3) := by decide +kernel
theorem dX2_manyFor_25 : decode cX2_manyFor 25 = .ok (.iconst 0, 1) := by decide +kernel
theorem dX2_manyFor_26 : decode cX2_manyFor 26 = .ok (.iadd, 1) := by decide +kernel
theorem dX2_manyFor_27 : decode cX2_manyFor 27 = .ok (.istore_n 2, 1) := by decide +kernel
theorem dX2_manyFor_28 : decode cX2_manyFor 28 = .ok (.iinc 3 1, 3) := by decide +kernel
theorem dX2_manyFor_31 : decode cX2_manyFor 31 = .ok (.goto (-27), 3) := by decide +kernel
theorem dX2_manyFor_34 : decode cX2_manyFor 34 = .ok (.iload_n 2, 1) := by decide +kernel
theorem dX2_manyFor_35 : decode cX2_manyFor 35 = .ok (.ireturn, 1) := by decide +kernel
set_option maxRecDepth 20000 in
theorem ggX2_worlds_X2_asks : GoodIn wsX2_worlds wsX2_asks := goodIn_r _ [5, 6, 7, 8, 9, 10, 4, 11, 12, 13, 14, 15, 16, 17, 18, 19, 43, 44, 45, 46, 47, 48, 49, 50, 51, 52, 53, 54, 55, 56, 57, 58] (by decide +kernel) (by decide +kernel)
set_option maxRecDepth 20000 in
theorem gX2_worlds_X2_asks : GoodIn wsX2_worlds (wsV RX2 118 RX2 yX2_asks wsX2_asks) := goodIn_app (goodIn_of _ (by decide +kernel)) ggX2_worlds_X2_asks
set_option maxRecDepth 20000 in
theorem ggX2_worlds_X2_manyFor : GoodIn wsX2_worlds wsX2_manyFor := goodIn_r _ [23, 24, 25, 26, 4, 27, 28, 29, 30, 31, 32, 33, 34, 35, 36, 37, 38, 39, 40, 41, 42, 43, 44, 45, 46, 47, 48, 49, 50, 51, 52, 53, 54, 55, 56, 57, 58] (by decide +kernel) (by decide +kernel)
set_option maxRecDepth 20000 in
theorem gX2_worlds_X2_manyFor : GoodIn wsX2_worlds (wsV RX2 121 RX2 yX2_manyFor wsX2_manyFor) := goodIn_app (goodIn_of _ (by decide +kernel)) ggX2_worlds_X2_manyFor
theorem dX2_worlds_0 : decode cX2_worlds 0 = .ok (.aload_n 0, 1) := by decide +kernel
theorem dX2_worlds_1 : decode cX2_worlds 1 = .ok (.iload_n 1, 1) := by decide +kernel
theorem dX2_worlds_2 : decode cX2_worlds 2 = .ok (.invokevirtual 118, 3) := by decide +kernel
theorem dX2_worlds_5 : decode cX2_worlds 5 = .ok (.ifCond .eq 11, 3) := by decide +kernel
theorem dX2_worlds_8 : decode cX2_worlds 8 = .ok (.aload_n 0, 1) := by decide +kernel
theorem dX2_worlds_9 : decode cX2_worlds 9 = .ok (.iload_n 1, 1) := by decide +kernel
theorem dX2_worlds_10 : decode cX2_worlds 10 = .ok (.invokevirtual 121, 3) := by decide +kernel
theorem dX2_worlds_13 : decode cX2_worlds 13 = .ok (.goto 4, 3) := by decide +kernel
theorem dX2_worlds_16 : decode cX2_worlds 16 = .ok (.iconst 0, 1) := by decide +kernel
theorem dX2_worlds_17 : decode cX2_worlds 17 = .ok (.ireturn, 1) := by decide +kernel
set_option maxRecDepth 20000 in
theorem ggX2_manyWith_X2_roleIn : GoodIn wsX2_manyWith wsX2_roleIn := goodIn_r _ [5, 6, 7, 4, 8] (by decide +kernel) (by decide +kernel)
set_option maxRecDepth 20000 in
theorem gX2_manyWith_X2_roleIn : GoodIn wsX2_manyWith (va_wsS RX2 56 yX2_roleIn wsX2_roleIn) := goodIn_app (goodIn_of _ (by decide +kernel)) ggX2_manyWith_X2_roleIn
set_option maxRecDepth 20000 in
theorem ggX2_manyWith_X2_isFor : GoodIn wsX2_manyWith wsX2_isFor := goodIn_r _ [12, 1, 13, 14, 15, 16, 17, 4, 18, 19, 20, 2, 3, 5, 6, 7, 8, 21, 22, 23, 24, 25, 26, 27, 28, 29, 30, 31, 32, 33, 34, 35, 36] (by decide +kernel) (by decide +kernel)
set_option maxRecDepth 20000 in
theorem gX2_manyWith_X2_isFor : GoodIn wsX2_manyWith (wsV RX2 115 RX2 yX2_isFor wsX2_isFor) := goodIn_app (goodIn_of _ (by decide +kernel)) ggX2_manyWith_X2_isFor
theorem dX2_manyWith_0 : decode cX2_manyWith 0 = .ok (.iconst 0, 1) := by decide +kernel
theorem dX2_manyWith_1 : decode cX2_manyWith 1 = .ok (.istore 4, 2) := by decide +kernel
theorem dX2_manyWith_3 : decode cX2_manyWith 3 = .ok (.iconst 0, 1) := by decide +kernel
theorem dX2_manyWith_4 : decode cX2_manyWith 4 = .ok (.istore 5, 2) := by decide +kernel
theorem dX2_manyWith_6 : decode cX2_manyWith 6 = .ok (.iload 5, 2) := by decide +kernel
theorem dX2_manyWith_8 : decode cX2_manyWith 8 = .ok (.sipush 16384, 3) := by decide +kernel
theorem dX2_manyWith_11 : decode cX2_manyWith 11 = .ok (.if_icmp .ge 49, 3) := by decide +kernel
theorem dX2_manyWith_14 : decode cX2_manyWith 14 = .ok (.iload 4, 2) := by decide +kernel
theorem dX2_manyWith_16 : decode cX2_manyWith 16 = .ok (.aload_n 0, 1) := by decide +kernel
theorem dX2_manyWith_17 : decode cX2_manyWith 17 = .ok (.getfield 7, 3) := by decide +kernel
theorem dX2_manyWith_20 : decode cX2_manyWith 20 = .ok (.iload 5, 2) := by decide +kernel
theorem dX2_manyWith_22 : decode cX2_manyWith 22 = .ok (.baload, 1) := by decide +kernel
theorem dX2_manyWith_23 : decode cX2_manyWith 23 = .ok (.ifCond .eq 27, 3) := by decide +kernel
theorem dX2_manyWith_26 : decode cX2_manyWith 26 = .ok (.iload 5, 2) := by decide +kernel
theorem dX2_manyWith_28 : decode cX2_manyWith 28 = .ok (.iload_n 2, 1) := by decide +kernel
theorem dX2_manyWith_29 : decode cX2_manyWith 29 = .ok (.invokestatic 56, 3) := by decide +kernel
theorem dX2_manyWith_32 : decode cX2_manyWith 32 = .ok (.iload_n 3, 1) := by decide +kernel
theorem dX2_manyWith_33 : decode cX2_manyWith 33 = .ok (.if_icmp .ne 17, 3) := by decide +kernel
theorem dX2_manyWith_36 : decode cX2_manyWith 36 = .ok (.aload_n 0, 1) := by decide +kernel
theorem dX2_manyWith_37 : decode cX2_manyWith 37 = .ok (.iload_n 1, 1) := by decide +kernel
theorem dX2_manyWith_38 : decode cX2_manyWith 38 = .ok (.iload 5, 2) := by decide +kernel
theorem dX2_manyWith_40 : decode cX2_manyWith 40 = .ok (.invokevirtual 115, 3) := by decide +kernel
theorem dX2_manyWith_43 : decode cX2_manyWith 43 = .ok (.ifCond .eq 7, 3) := by decide +kernel
theorem dX2_manyWith_46 : decode cX2_manyWith 46 = .ok (.iconst 1, 1) := by decide +kernel
theorem dX2_manyWith_47 : decode cX2_manyWith 47 = .ok (.goto 4, 3) := by decide +kernel
theorem dX2_manyWith_50 : decode cX2_manyWith 50 = .ok (.iconst 0, 1) := by decide +kernel
theorem dX2_manyWith_51 : decode cX2_manyWith 51 = .ok (.iadd, 1) := by decide +kernel
theorem dX2_manyWith_52 : decode cX2_manyWith 52 = .ok (.istore 4, 2) := by decide +kernel
theorem dX2_manyWith_54 : decode cX2_manyWith 54 = .ok (.iinc 5 1, 3) := by decide +kernel
theorem dX2_manyWith_57 : decode cX2_manyWith 57 = .ok (.goto (-51), 3) := by decide +kernel
theorem dX2_manyWith_60 : decode cX2_manyWith 60 = .ok (.iload 4, 2) := by decide +kernel
theorem dX2_manyWith_62 : decode cX2_manyWith 62 = .ok (.ireturn, 1) := by decide +kernel
set_option maxRecDepth 20000 in
theorem ggX2_worldsWith_X2_isViewer : GoodIn wsX2_worldsWith wsX2_isViewer := goodIn_r _ [7, 8, 9, 10, 6, 11, 12, 13, 14, 15, 39, 40, 41, 42, 43, 44, 45, 46, 47, 48, 49, 50, 51, 52, 53, 54] (by decide +kernel) (by decide +kernel)
set_option maxRecDepth 20000 in
theorem gX2_worldsWith_X2_isViewer : GoodIn wsX2_worldsWith (wsV RX2 112 RX2 yX2_isViewer wsX2_isViewer) := goodIn_app (goodIn_of _ (by decide +kernel)) ggX2_worldsWith_X2_isViewer
set_option maxRecDepth 20000 in
theorem ggX2_worldsWith_X2_isPlayer : GoodIn wsX2_worldsWith wsX2_isPlayer := goodIn_r _ [11, 12, 13, 14, 6, 15, 39, 40, 41, 42, 43, 44, 45, 46, 47, 48, 49, 50, 51, 52, 53, 54] (by decide +kernel) (by decide +kernel)
set_option maxRecDepth 20000 in
theorem gX2_worldsWith_X2_isPlayer : GoodIn wsX2_worldsWith (wsV RX2 31 RX2 yX2_isPlayer wsX2_isPlayer) := goodIn_app (goodIn_of _ (by decide +kernel)) ggX2_worldsWith_X2_isPlayer
set_option maxRecDepth 20000 in
theorem ggX2_worldsWith_X2_in : GoodIn wsX2_worldsWith wsX2_in := goodIn_r _ [15] (by decide +kernel) (by decide +kernel)
set_option maxRecDepth 20000 in
theorem gX2_worldsWith_X2_in : GoodIn wsX2_worldsWith (va_wsS RX2 27 yX2_in wsX2_in) := goodIn_app (goodIn_of _ (by decide +kernel)) ggX2_worldsWith_X2_in
set_option maxRecDepth 20000 in
theorem ggX2_worldsWith_X2_manyWith : GoodIn wsX2_worldsWith wsX2_manyWith := goodIn_r _ [19, 20, 21, 22, 6, 23, 24, 25, 26, 27, 28, 29, 30, 31, 32, 33, 34, 35, 36, 37, 38, 39, 40, 41, 42, 43, 44, 45, 46, 47, 48, 49, 50, 51, 52, 53, 54] (by decide +kernel) (by decide +kernel)
set_option maxRecDepth 20000 in
theorem gX2_worldsWith_X2_manyWith : GoodIn wsX2_worldsWith (wsV RX2 124 RX2 yX2_manyWith wsX2_manyWith) := goodIn_app (goodIn_of _ (by decide +kernel)) ggX2_worldsWith_X2_manyWith
theorem dX2_worldsWith_0 : decode cX2_worldsWith 0 = .ok (.aload_n 0, 1) := by decide +kernel
theorem dX2_worldsWith_1 : decode cX2_worldsWith 1 = .ok (.aload_n 0, 1) := by decide +kernel
theorem dX2_worldsWith_2 : decode cX2_worldsWith 2 = .ok (.getfield 70, 3) := by decide +kernel
theorem dX2_worldsWith_5 : decode cX2_worldsWith 5 = .ok (.ifCond .ne 7, 3) := by decide +kernel
theorem dX2_worldsWith_8 : decode cX2_worldsWith 8 = .ok (.iconst 1, 1) := by decide +kernel
theorem dX2_worldsWith_9 : decode cX2_worldsWith 9 = .ok (.goto 37, 3) := by decide +kernel
theorem dX2_worldsWith_12 : decode cX2_worldsWith 12 = .ok (.aload_n 0, 1) := by decide +kernel
theorem dX2_worldsWith_13 : decode cX2_worldsWith 13 = .ok (.iload_n 1, 1) := by decide +kernel
theorem dX2_worldsWith_14 : decode cX2_worldsWith 14 = .ok (.invokevirtual 112, 3) := by decide +kernel
theorem dX2_worldsWith_17 : decode cX2_worldsWith 17 = .ok (.ifCond .eq 11, 3) := by decide +kernel
theorem dX2_worldsWith_20 : decode cX2_worldsWith 20 = .ok (.aload_n 0, 1) := by decide +kernel
theorem dX2_worldsWith_21 : decode cX2_worldsWith 21 = .ok (.iload_n 2, 1) := by decide +kernel
theorem dX2_worldsWith_22 : decode cX2_worldsWith 22 = .ok (.invokevirtual 31, 3) := by decide +kernel
theorem dX2_worldsWith_25 : decode cX2_worldsWith 25 = .ok (.ifCond .ne 7, 3) := by decide +kernel
theorem dX2_worldsWith_28 : decode cX2_worldsWith 28 = .ok (.iconst 2, 1) := by decide +kernel
theorem dX2_worldsWith_29 : decode cX2_worldsWith 29 = .ok (.goto 17, 3) := by decide +kernel
theorem dX2_worldsWith_32 : decode cX2_worldsWith 32 = .ok (.iload_n 3, 1) := by decide +kernel
theorem dX2_worldsWith_33 : decode cX2_worldsWith 33 = .ok (.iconst 0, 1) := by decide +kernel
theorem dX2_worldsWith_34 : decode cX2_worldsWith 34 = .ok (.iconst 3, 1) := by decide +kernel
theorem dX2_worldsWith_35 : decode cX2_worldsWith 35 = .ok (.invokestatic 27, 3) := by decide +kernel
theorem dX2_worldsWith_38 : decode cX2_worldsWith 38 = .ok (.ifCond .eq 7, 3) := by decide +kernel
theorem dX2_worldsWith_41 : decode cX2_worldsWith 41 = .ok (.iconst 0, 1) := by decide +kernel
theorem dX2_worldsWith_42 : decode cX2_worldsWith 42 = .ok (.goto 4, 3) := by decide +kernel
theorem dX2_worldsWith_45 : decode cX2_worldsWith 45 = .ok (.iconst 3, 1) := by decide +kernel
theorem dX2_worldsWith_46 : decode cX2_worldsWith 46 = .ok (.putfield 20, 3) := by decide +kernel
theorem dX2_worldsWith_49 : decode cX2_worldsWith 49 = .ok (.aload_n 0, 1) := by decide +kernel
theorem dX2_worldsWith_50 : decode cX2_worldsWith 50 = .ok (.getfield 20, 3) := by decide +kernel
theorem dX2_worldsWith_53 : decode cX2_worldsWith 53 = .ok (.ifCond .le 7, 3) := by decide +kernel
theorem dX2_worldsWith_56 : decode cX2_worldsWith 56 = .ok (.iconst 0, 1) := by decide +kernel
theorem dX2_worldsWith_57 : decode cX2_worldsWith 57 = .ok (.goto 10, 3) := by decide +kernel
theorem dX2_worldsWith_60 : decode cX2_worldsWith 60 = .ok (.aload_n 0, 1) := by decide +kernel
theorem dX2_worldsWith_61 : decode cX2_worldsWith 61 = .ok (.iload_n 1, 1) := by decide +kernel
theorem dX2_worldsWith_62 : decode cX2_worldsWith 62 = .ok (.iload_n 2, 1) := by decide +kernel
theorem dX2_worldsWith_63 : decode cX2_worldsWith 63 = .ok (.iload_n 3, 1) := by decide +kernel
theorem dX2_worldsWith_64 : decode cX2_worldsWith 64 = .ok (.invokevirtual 124, 3) := by decide +kernel
theorem dX2_worldsWith_67 : decode cX2_worldsWith 67 = .ok (.ireturn, 1) := by decide +kernel
set_option maxRecDepth 20000 in
theorem ggX2_inSome_X2_isFor : GoodIn wsX2_inSome wsX2_isFor := goodIn_r _ [6, 7, 8, 9, 10, 11, 12, 5, 13, 14, 15, 16, 17, 18, 19, 20, 21, 22, 23, 24, 25, 26, 27, 28, 29, 30, 31, 32, 33, 34, 35, 36, 37] (by decide +kernel) (by decide +kernel)
set_option maxRecDepth 20000 in
theorem gX2_inSome_X2_isFor : GoodIn wsX2_inSome (wsV RX2 115 RX2 yX2_isFor wsX2_isFor) := goodIn_app (goodIn_of _ (by decide +kernel)) ggX2_inSome_X2_isFor
theorem dX2_inSome_0 : decode cX2_inSome 0 = .ok (.iconst 0, 1) := by decide +kernel
theorem dX2_inSome_1 : decode cX2_inSome 1 = .ok (.istore_n 3, 1) := by decide +kernel
theorem dX2_inSome_2 : decode cX2_inSome 2 = .ok (.iconst 0, 1) := by decide +kernel
theorem dX2_inSome_3 : decode cX2_inSome 3 = .ok (.istore 4, 2) := by decide +kernel
theorem dX2_inSome_5 : decode cX2_inSome 5 = .ok (.iload 4, 2) := by decide +kernel
theorem dX2_inSome_7 : decode cX2_inSome 7 = .ok (.sipush 16384, 3) := by decide +kernel
theorem dX2_inSome_10 : decode cX2_inSome 10 = .ok (.if_icmp .ge 41, 3) := by decide +kernel
theorem dX2_inSome_13 : decode cX2_inSome 13 = .ok (.aload_n 0, 1) := by decide +kernel
theorem dX2_inSome_14 : decode cX2_inSome 14 = .ok (.iload_n 1, 1) := by decide +kernel
theorem dX2_inSome_15 : decode cX2_inSome 15 = .ok (.iload 4, 2) := by decide +kernel
theorem dX2_inSome_17 : decode cX2_inSome 17 = .ok (.invokevirtual 115, 3) := by decide +kernel
theorem dX2_inSome_20 : decode cX2_inSome 20 = .ok (.ifCond .eq 25, 3) := by decide +kernel
theorem dX2_inSome_23 : decode cX2_inSome 23 = .ok (.iload_n 3, 1) := by decide +kernel
theorem dX2_inSome_24 : decode cX2_inSome 24 = .ok (.iload_n 2, 1) := by decide +kernel
theorem dX2_inSome_25 : decode cX2_inSome 25 = .ok (.ifCond .eq 11, 3) := by decide +kernel
theorem dX2_inSome_28 : decode cX2_inSome 28 = .ok (.iload 4, 2) := by decide +kernel
theorem dX2_inSome_30 : decode cX2_inSome 30 = .ok (.bipush 64, 2) := by decide +kernel
theorem dX2_inSome_32 : decode cX2_inSome 32 = .ok (.idiv, 1) := by decide +kernel
theorem dX2_inSome_33 : decode cX2_inSome 33 = .ok (.goto 10, 3) := by decide +kernel
theorem dX2_inSome_36 : decode cX2_inSome 36 = .ok (.iload 4, 2) := by decide +kernel
theorem dX2_inSome_38 : decode cX2_inSome 38 = .ok (.bipush 64, 2) := by decide +kernel
theorem dX2_inSome_40 : decode cX2_inSome 40 = .ok (.idiv, 1) := by decide +kernel
theorem dX2_inSome_41 : decode cX2_inSome 41 = .ok (.iconst (-1), 1) := by decide +kernel
theorem dX2_inSome_42 : decode cX2_inSome 42 = .ok (.ixor, 1) := by decide +kernel
theorem dX2_inSome_43 : decode cX2_inSome 43 = .ok (.ior, 1) := by decide +kernel
theorem dX2_inSome_44 : decode cX2_inSome 44 = .ok (.istore_n 3, 1) := by decide +kernel
theorem dX2_inSome_45 : decode cX2_inSome 45 = .ok (.iinc 4 1, 3) := by decide +kernel
theorem dX2_inSome_48 : decode cX2_inSome 48 = .ok (.goto (-43), 3) := by decide +kernel
theorem dX2_inSome_51 : decode cX2_inSome 51 = .ok (.iload_n 3, 1) := by decide +kernel
theorem dX2_inSome_52 : decode cX2_inSome 52 = .ok (.iconst 1, 1) := by decide +kernel
theorem dX2_inSome_53 : decode cX2_inSome 53 = .ok (.aload_n 0, 1) := by decide +kernel
theorem dX2_inSome_54 : decode cX2_inSome 54 = .ok (.getfield 24, 3) := by decide +kernel
theorem dX2_inSome_57 : decode cX2_inSome 57 = .ok (.ishl, 1) := by decide +kernel
theorem dX2_inSome_58 : decode cX2_inSome 58 = .ok (.iconst 1, 1) := by decide +kernel
theorem dX2_inSome_59 : decode cX2_inSome 59 = .ok (.isub, 1) := by decide +kernel
theorem dX2_inSome_60 : decode cX2_inSome 60 = .ok (.iand, 1) := by decide +kernel
theorem dX2_inSome_61 : decode cX2_inSome 61 = .ok (.ireturn, 1) := by decide +kernel
set_option maxRecDepth 20000 in
theorem ggX2_sureWitches_X2_asks : GoodIn wsX2_sureWitches wsX2_asks := goodIn_r _ [6, 7, 8, 9, 10, 11, 5, 12, 13, 14, 15, 16, 1, 17, 18, 19, 43, 44, 45, 46, 47, 48, 49, 50, 51, 52, 53, 54, 55, 56, 57, 58] (by decide +kernel) (by decide +kernel)
set_option maxRecDepth 20000 in
theorem gX2_sureWitches_X2_asks : GoodIn wsX2_sureWitches (wsV RX2 118 RX2 yX2_asks wsX2_asks) := goodIn_app (goodIn_of _ (by decide +kernel)) ggX2_sureWitches_X2_asks
set_option maxRecDepth 20000 in
theorem ggX2_sureWitches_X2_inSome : GoodIn wsX2_sureWitches wsX2_inSome := goodIn_r _ [23, 1, 24, 25, 26, 5, 27, 28, 29, 30, 31, 32, 33, 34, 35, 36, 37, 38, 39, 40, 41, 42, 43, 44, 45, 46, 47, 48, 49, 50, 51, 52, 53, 54, 55, 56, 57, 58] (by decide +kernel) (by decide +kernel)
set_option maxRecDepth 20000 in
theorem gX2_sureWitches_X2_inSome : GoodIn wsX2_sureWitches (wsV RX2 128 RX2 yX2_inSome wsX2_inSome) := goodIn_app (goodIn_of _ (by decide +kernel)) ggX2_sureWitches_X2_inSome
theorem dX2_sureWitches_0 : decode cX2_sureWitches 0 = .ok (.aload_n 0, 1) := by decide +kernel
theorem dX2_sureWitches_1 : decode cX2_sureWitches 1 = .ok (.iload_n 1, 1) := by decide +kernel
theorem dX2_sureWitches_2 : decode cX2_sureWitches 2 = .ok (.invokevirtual 118, 3) := by decide +kernel
theorem dX2_sureWitches_5 : decode cX2_sureWitches 5 = .ok (.ifCond .eq 23, 3) := by decide +kernel
theorem dX2_sureWitches_8 : decode cX2_sureWitches 8 = .ok (.iconst 1, 1) := by decide +kernel
theorem dX2_sureWitches_9 : decode cX2_sureWitches 9 = .ok (.aload_n 0, 1) := by decide +kernel
theorem dX2_sureWitches_10 : decode cX2_sureWitches 10 = .ok (.getfield 24, 3) := by decide +kernel
theorem dX2_sureWitches_13 : decode cX2_sureWitches 13 = .ok (.ishl, 1) := by decide +kernel
theorem dX2_sureWitches_14 : decode cX2_sureWitches 14 = .ok (.iconst 1, 1) := by decide +kernel
theorem dX2_sureWitches_15 : decode cX2_sureWitches 15 = .ok (.isub, 1) := by decide +kernel
theorem dX2_sureWitches_16 : decode cX2_sureWitches 16 = .ok (.aload_n 0, 1) := by decide +kernel
theorem dX2_sureWitches_17 : decode cX2_sureWitches 17 = .ok (.iload_n 1, 1) := by decide +kernel
theorem dX2_sureWitches_18 : decode cX2_sureWitches 18 = .ok (.iconst 0, 1) := by decide +kernel
theorem dX2_sureWitches_19 : decode cX2_sureWitches 19 = .ok (.invokevirtual 128, 3) := by decide +kernel
theorem dX2_sureWitches_22 : decode cX2_sureWitches 22 = .ok (.iconst (-1), 1) := by decide +kernel
theorem dX2_sureWitches_23 : decode cX2_sureWitches 23 = .ok (.ixor, 1) := by decide +kernel
theorem dX2_sureWitches_24 : decode cX2_sureWitches 24 = .ok (.iand, 1) := by decide +kernel
theorem dX2_sureWitches_25 : decode cX2_sureWitches 25 = .ok (.goto 4, 3) := by decide +kernel
theorem dX2_sureWitches_28 : decode cX2_sureWitches 28 = .ok (.iconst 0, 1) := by decide +kernel
theorem dX2_sureWitches_29 : decode cX2_sureWitches 29 = .ok (.ireturn, 1) := by decide +kernel
set_option maxRecDepth 20000 in
theorem ggX2_sureHonest_X2_asks : GoodIn wsX2_sureHonest wsX2_asks := goodIn_r _ [6, 7, 8, 9, 10, 11, 5, 12, 13, 14, 15, 16, 1, 17, 18, 19, 43, 44, 45, 46, 47, 48, 49, 50, 51, 52, 53, 54, 55, 56, 57, 58] (by decide +kernel) (by decide +kernel)
set_option maxRecDepth 20000 in
theorem gX2_sureHonest_X2_asks : GoodIn wsX2_sureHonest (wsV RX2 118 RX2 yX2_asks wsX2_asks) := goodIn_app (goodIn_of _ (by decide +kernel)) ggX2_sureHonest_X2_asks
set_option maxRecDepth 20000 in
theorem ggX2_sureHonest_X2_inSome : GoodIn wsX2_sureHonest wsX2_inSome := goodIn_r _ [23, 1, 24, 25, 26, 5, 27, 28, 29, 30, 31, 32, 33, 34, 35, 36, 37, 38, 39, 40, 41, 42, 43, 44, 45, 46, 47, 48, 49, 50, 51, 52, 53, 54, 55, 56, 57, 58] (by decide +kernel) (by decide +kernel)
set_option maxRecDepth 20000 in
theorem gX2_sureHonest_X2_inSome : GoodIn wsX2_sureHonest (wsV RX2 128 RX2 yX2_inSome wsX2_inSome) := goodIn_app (goodIn_of _ (by decide +kernel)) ggX2_sureHonest_X2_inSome
theorem dX2_sureHonest_0 : decode cX2_sureHonest 0 = .ok (.aload_n 0, 1) := by decide +kernel
theorem dX2_sureHonest_1 : decode cX2_sureHonest 1 = .ok (.iload_n 1, 1) := by decide +kernel
theorem dX2_sureHonest_2 : decode cX2_sureHonest 2 = .ok (.invokevirtual 118, 3) := by decide +kernel
theorem dX2_sureHonest_5 : decode cX2_sureHonest 5 = .ok (.ifCond .eq 23, 3) := by decide +kernel
theorem dX2_sureHonest_8 : decode cX2_sureHonest 8 = .ok (.iconst 1, 1) := by decide +kernel
theorem dX2_sureHonest_9 : decode cX2_sureHonest 9 = .ok (.aload_n 0, 1) := by decide +kernel
theorem dX2_sureHonest_10 : decode cX2_sureHonest 10 = .ok (.getfield 24, 3) := by decide +kernel
theorem dX2_sureHonest_13 : decode cX2_sureHonest 13 = .ok (.ishl, 1) := by decide +kernel
theorem dX2_sureHonest_14 : decode cX2_sureHonest 14 = .ok (.iconst 1, 1) := by decide +kernel
theorem dX2_sureHonest_15 : decode cX2_sureHonest 15 = .ok (.isub, 1) := by decide +kernel
theorem dX2_sureHonest_16 : decode cX2_sureHonest 16 = .ok (.aload_n 0, 1) := by decide +kernel
theorem dX2_sureHonest_17 : decode cX2_sureHonest 17 = .ok (.iload_n 1, 1) := by decide +kernel
theorem dX2_sureHonest_18 : decode cX2_sureHonest 18 = .ok (.iconst 1, 1) := by decide +kernel
theorem dX2_sureHonest_19 : decode cX2_sureHonest 19 = .ok (.invokevirtual 128, 3) := by decide +kernel
theorem dX2_sureHonest_22 : decode cX2_sureHonest 22 = .ok (.iconst (-1), 1) := by decide +kernel
theorem dX2_sureHonest_23 : decode cX2_sureHonest 23 = .ok (.ixor, 1) := by decide +kernel
theorem dX2_sureHonest_24 : decode cX2_sureHonest 24 = .ok (.iand, 1) := by decide +kernel
theorem dX2_sureHonest_25 : decode cX2_sureHonest 25 = .ok (.goto 4, 3) := by decide +kernel
theorem dX2_sureHonest_28 : decode cX2_sureHonest 28 = .ok (.iconst 0, 1) := by decide +kernel
theorem dX2_sureHonest_29 : decode cX2_sureHonest 29 = .ok (.ireturn, 1) := by decide +kernel
set_option maxRecDepth 20000 in
theorem ggX2_witchSets_X2_asks : GoodIn wsX2_witchSets wsX2_asks := goodIn_r _ [5, 6, 7, 8, 9, 10, 4, 11, 12, 13, 14, 15, 16, 17, 18, 19, 39, 40, 41, 42, 43, 44, 45, 46, 47, 48, 49, 50, 51, 52, 53, 54] (by decide +kernel) (by decide +kernel)
set_option maxRecDepth 20000 in
theorem gX2_witchSets_X2_asks : GoodIn wsX2_witchSets (wsV RX2 118 RX2 yX2_asks wsX2_asks) := goodIn_app (goodIn_of _ (by decide +kernel)) ggX2_witchSets_X2_asks
set_option maxRecDepth 20000 in
theorem ggX2_witchSets_X2_isFor : GoodIn wsX2_witchSets wsX2_isFor := goodIn_r _ [23, 24, 25, 26, 27, 28, 29, 4, 30, 31, 32, 33, 34, 35, 36, 37, 38, 39, 40, 41, 42, 43, 44, 45, 46, 47, 48, 49, 50, 51, 52, 53, 54] (by decide +kernel) (by decide +kernel)
set_option maxRecDepth 20000 in
theorem gX2_witchSets_X2_isFor : GoodIn wsX2_witchSets (wsV RX2 115 RX2 yX2_isFor wsX2_isFor) := goodIn_app (goodIn_of _ (by decide +kernel)) ggX2_witchSets_X2_isFor
theorem dX2_witchSets_0 : decode cX2_witchSets 0 = .ok (.aload_n 0, 1) := by decide +kernel
theorem dX2_witchSets_1 : decode cX2_witchSets 1 = .ok (.iload_n 1, 1) := by decide +kernel
theorem dX2_witchSets_2 : decode cX2_witchSets 2 = .ok (.invokevirtual 118, 3) := by decide +kernel
theorem dX2_witchSets_5 : decode cX2_witchSets 5 = .ok (.ifCond .ne 5, 3) := by decide +kernel
theorem dX2_witchSets_8 : decode cX2_witchSets 8 = .ok (.iconst 0, 1) := by decide +kernel
theorem dX2_witchSets_9 : decode cX2_witchSets 9 = .ok (.ireturn, 1) := by decide +kernel
theorem dX2_witchSets_10 : decode cX2_witchSets 10 = .ok (.iconst 0, 1) := by decide +kernel
theorem dX2_witchSets_11 : decode cX2_witchSets 11 = .ok (.istore_n 2, 1) := by decide +kernel
theorem dX2_witchSets_12 : decode cX2_witchSets 12 = .ok (.iconst 0, 1) := by decide +kernel
theorem dX2_witchSets_13 : decode cX2_witchSets 13 = .ok (.istore_n 3, 1) := by decide +kernel
theorem dX2_witchSets_14 : decode cX2_witchSets 14 = .ok (.iload_n 3, 1) := by decide +kernel
theorem dX2_witchSets_15 : decode cX2_witchSets 15 = .ok (.sipush 256, 3) := by decide +kernel
theorem dX2_witchSets_18 : decode cX2_witchSets 18 = .ok (.if_icmp .ge 71, 3) := by decide +kernel
theorem dX2_witchSets_21 : decode cX2_witchSets 21 = .ok (.iconst 0, 1) := by decide +kernel
theorem dX2_witchSets_22 : decode cX2_witchSets 22 = .ok (.istore 4, 2) := by decide +kernel
theorem dX2_witchSets_24 : decode cX2_witchSets 24 = .ok (.bipush 64, 2) := by decide +kernel
theorem dX2_witchSets_26 : decode cX2_witchSets 26 = .ok (.iload_n 3, 1) := by decide +kernel
theorem dX2_witchSets_27 : decode cX2_witchSets 27 = .ok (.imul, 1) := by decide +kernel
theorem dX2_witchSets_28 : decode cX2_witchSets 28 = .ok (.istore 5, 2) := by decide +kernel
theorem dX2_witchSets_30 : decode cX2_witchSets 30 = .ok (.iload 5, 2) := by decide +kernel
theorem dX2_witchSets_32 : decode cX2_witchSets 32 = .ok (.bipush 64, 2) := by decide +kernel
theorem dX2_witchSets_34 : decode cX2_witchSets 34 = .ok (.iload_n 3, 1) := by decide +kernel
theorem dX2_witchSets_35 : decode cX2_witchSets 35 = .ok (.imul, 1) := by decide +kernel
theorem dX2_witchSets_36 : decode cX2_witchSets 36 = .ok (.bipush 64, 2) := by decide +kernel
theorem dX2_witchSets_38 : decode cX2_witchSets 38 = .ok (.iadd, 1) := by decide +kernel
theorem dX2_witchSets_39 : decode cX2_witchSets 39 = .ok (.if_icmp .ge 31, 3) := by decide +kernel
theorem dX2_witchSets_42 : decode cX2_witchSets 42 = .ok (.iload 4, 2) := by decide +kernel
theorem dX2_witchSets_44 : decode cX2_witchSets 44 = .ok (.ifCond .ne 13, 3) := by decide +kernel
theorem dX2_witchSets_47 : decode cX2_witchSets 47 = .ok (.aload_n 0, 1) := by decide +kernel
theorem dX2_witchSets_48 : decode cX2_witchSets 48 = .ok (.iload_n 1, 1) := by decide +kernel
theorem dX2_witchSets_49 : decode cX2_witchSets 49 = .ok (.iload 5, 2) := by decide +kernel
theorem dX2_witchSets_51 : decode cX2_witchSets 51 = .ok (.invokevirtual 115, 3) := by decide +kernel
theorem dX2_witchSets_54 : decode cX2_witchSets 54 = .ok (.ifCond .eq 7, 3) := by decide +kernel
theorem dX2_witchSets_57 : decode cX2_witchSets 57 = .ok (.iconst 1, 1) := by decide +kernel
theorem dX2_witchSets_58 : decode cX2_witchSets 58 = .ok (.goto 4, 3) := by decide +kernel
theorem dX2_witchSets_61 : decode cX2_witchSets 61 = .ok (.iconst 0, 1) := by decide +kernel
theorem dX2_witchSets_62 : decode cX2_witchSets 62 = .ok (.istore 4, 2) := by decide +kernel
theorem dX2_witchSets_64 : decode cX2_witchSets 64 = .ok (.iinc 5 1, 3) := by decide +kernel
theorem dX2_witchSets_67 : decode cX2_witchSets 67 = .ok (.goto (-37), 3) := by decide +kernel
theorem dX2_witchSets_70 : decode cX2_witchSets 70 = .ok (.iload_n 2, 1) := by decide +kernel
theorem dX2_witchSets_71 : decode cX2_witchSets 71 = .ok (.iload 4, 2) := by decide +kernel
theorem dX2_witchSets_73 : decode cX2_witchSets 73 = .ok (.ifCond .eq 7, 3) := by decide +kernel
theorem dX2_witchSets_76 : decode cX2_witchSets 76 = .ok (.iconst 1, 1) := by decide +kernel
theorem dX2_witchSets_77 : decode cX2_witchSets 77 = .ok (.goto 4, 3) := by decide +kernel
theorem dX2_witchSets_80 : decode cX2_witchSets 80 = .ok (.iconst 0, 1) := by decide +kernel
theorem dX2_witchSets_81 : decode cX2_witchSets 81 = .ok (.iadd, 1) := by decide +kernel
theorem dX2_witchSets_82 : decode cX2_witchSets 82 = .ok (.istore_n 2, 1) := by decide +kernel
theorem dX2_witchSets_83 : decode cX2_witchSets 83 = .ok (.iinc 3 1, 3) := by decide +kernel
theorem dX2_witchSets_86 : decode cX2_witchSets 86 = .ok (.goto (-72), 3) := by decide +kernel
theorem dX2_witchSets_89 : decode cX2_witchSets 89 = .ok (.iload_n 2, 1) := by decide +kernel
theorem dX2_witchSets_90 : decode cX2_witchSets 90 = .ok (.ireturn, 1) := by decide +kernel
set_option maxRecDepth 20000 in
theorem ggX2_laysWitches_X2_manyWith : GoodIn wsX2_laysWitches wsX2_manyWith := goodIn_r _ [7, 8, 9, 10, 6, 11, 12, 13, 14, 15, 16, 17, 18, 19, 20, 21, 22, 23, 24, 25, 26, 27, 28, 29, 30, 31, 32, 33, 34, 35, 36, 37, 38, 39, 40, 41, 42] (by decide +kernel) (by decide +kernel)
set_option maxRecDepth 20000 in
theorem gX2_laysWitches_X2_manyWith : GoodIn wsX2_laysWitches (wsV RX2 124 RX2 yX2_manyWith wsX2_manyWith) := goodIn_app (goodIn_of _ (by decide +kernel)) ggX2_laysWitches_X2_manyWith
theorem dX2_laysWitches_0 : decode cX2_laysWitches 0 = .ok (.iconst 0, 1) := by decide +kernel
theorem dX2_laysWitches_1 : decode cX2_laysWitches 1 = .ok (.istore_n 2, 1) := by decide +kernel
theorem dX2_laysWitches_2 : decode cX2_laysWitches 2 = .ok (.iload_n 2, 1) := by decide +kernel
theorem dX2_laysWitches_3 : decode cX2_laysWitches 3 = .ok (.aload_n 0, 1) := by decide +kernel
theorem dX2_laysWitches_4 : decode cX2_laysWitches 4 = .ok (.getfield 24, 3) := by decide +kernel
theorem dX2_laysWitches_7 : decode cX2_laysWitches 7 = .ok (.if_icmp .ge 22, 3) := by decide +kernel
theorem dX2_laysWitches_10 : decode cX2_laysWitches 10 = .ok (.aload_n 0, 1) := by decide +kernel
theorem dX2_laysWitches_11 : decode cX2_laysWitches 11 = .ok (.getfield 17, 3) := by decide +kernel
theorem dX2_laysWitches_14 : decode cX2_laysWitches 14 = .ok (.iload_n 2, 1) := by decide +kernel
theorem dX2_laysWitches_15 : decode cX2_laysWitches 15 = .ok (.aload_n 0, 1) := by decide +kernel
theorem dX2_laysWitches_16 : decode cX2_laysWitches 16 = .ok (.iload_n 1, 1) := by decide +kernel
theorem dX2_laysWitches_17 : decode cX2_laysWitches 17 = .ok (.iload_n 2, 1) := by decide +kernel
theorem dX2_laysWitches_18 : decode cX2_laysWitches 18 = .ok (.iconst 1, 1) := by decide +kernel
theorem dX2_laysWitches_19 : decode cX2_laysWitches 19 = .ok (.invokevirtual 124, 3) := by decide +kernel
theorem dX2_laysWitches_22 : decode cX2_laysWitches 22 = .ok (.iastore, 1) := by decide +kernel
theorem dX2_laysWitches_23 : decode cX2_laysWitches 23 = .ok (.iinc 2 1, 3) := by decide +kernel
theorem dX2_laysWitches_26 : decode cX2_laysWitches 26 = .ok (.goto (-24), 3) := by decide +kernel
theorem dX2_laysWitches_29 : decode cX2_laysWitches 29 = .ok (.return_, 1) := by decide +kernel
set_option maxRecDepth 20000 in
theorem ggX2_suspect_X2_asks : GoodIn wsX2_suspect wsX2_asks := goodIn_r _ [8, 9, 10, 11, 12, 13, 7, 14, 15, 16, 17, 18, 1, 19, 20, 21, 49, 50, 51, 52, 53, 54, 55, 56, 57, 58, 59, 60, 61, 62, 63, 64] (by decide +kernel) (by decide +kernel)
set_option maxRecDepth 20000 in
theorem gX2_suspect_X2_asks : GoodIn wsX2_suspect (wsV RX2 118 RX2 yX2_asks wsX2_asks) := goodIn_app (goodIn_of _ (by decide +kernel)) ggX2_suspect_X2_asks
set_option maxRecDepth 20000 in
theorem ggX2_suspect_X2_laysWitches : GoodIn wsX2_suspect wsX2_laysWitches := goodIn_r _ [25, 1, 3, 26, 27, 28, 7, 29, 30, 31, 32, 33, 34, 35, 36, 37, 38, 39, 40, 41, 42, 43, 44, 45, 46, 47, 48, 49, 50, 51, 52, 53, 54, 55, 56, 57, 58, 59, 60, 61, 62, 63, 64] (by decide +kernel) (by decide +kernel)
set_option maxRecDepth 20000 in
theorem gX2_suspect_X2_laysWitches : GoodIn wsX2_suspect (wsV RX2 132 RX2 yX2_laysWitches wsX2_laysWitches) := goodIn_app (goodIn_of _ (by decide +kernel)) ggX2_suspect_X2_laysWitches
set_option maxRecDepth 20000 in
theorem ggX2_suspect_X2_has : GoodIn wsX2_suspect wsX2_has := goodIn_r _ [36] (by decide +kernel) (by decide +kernel)
set_option maxRecDepth 20000 in
theorem gX2_suspect_X2_has : GoodIn wsX2_suspect (va_wsS RX2 39 yX2_has wsX2_has) := goodIn_app (goodIn_of _ (by decide +kernel)) ggX2_suspect_X2_has
theorem dX2_suspect_0 : decode cX2_suspect 0 = .ok (.aload_n 0, 1) := by decide +kernel
theorem dX2_suspect_1 : decode cX2_suspect 1 = .ok (.iload_n 1, 1) := by decide +kernel
theorem dX2_suspect_2 : decode cX2_suspect 2 = .ok (.invokevirtual 118, 3) := by decide +kernel
theorem dX2_suspect_5 : decode cX2_suspect 5 = .ok (.ifCond .ne 5, 3) := by decide +kernel
theorem dX2_suspect_8 : decode cX2_suspect 8 = .ok (.iconst 0, 1) := by decide +kernel
theorem dX2_suspect_9 : decode cX2_suspect 9 = .ok (.ireturn, 1) := by decide +kernel
theorem dX2_suspect_10 : decode cX2_suspect 10 = .ok (.aload_n 0, 1) := by decide +kernel
theorem dX2_suspect_11 : decode cX2_suspect 11 = .ok (.iload_n 1, 1) := by decide +kernel
theorem dX2_suspect_12 : decode cX2_suspect 12 = .ok (.invokevirtual 132, 3) := by decide +kernel
theorem dX2_suspect_15 : decode cX2_suspect 15 = .ok (.iconst (-1), 1) := by decide +kernel
theorem dX2_suspect_16 : decode cX2_suspect 16 = .ok (.istore_n 2, 1) := by decide +kernel
theorem dX2_suspect_17 : decode cX2_suspect 17 = .ok (.iconst 0, 1) := by decide +kernel
theorem dX2_suspect_18 : decode cX2_suspect 18 = .ok (.istore_n 3, 1) := by decide +kernel
theorem dX2_suspect_19 : decode cX2_suspect 19 = .ok (.iload_n 3, 1) := by decide +kernel
theorem dX2_suspect_20 : decode cX2_suspect 20 = .ok (.aload_n 0, 1) := by decide +kernel
theorem dX2_suspect_21 : decode cX2_suspect 21 = .ok (.getfield 24, 3) := by decide +kernel
theorem dX2_suspect_24 : decode cX2_suspect 24 = .ok (.if_icmp .ge 47, 3) := by decide +kernel
theorem dX2_suspect_27 : decode cX2_suspect 27 = .ok (.aload_n 0, 1) := by decide +kernel
theorem dX2_suspect_28 : decode cX2_suspect 28 = .ok (.getfield 67, 3) := by decide +kernel
theorem dX2_suspect_31 : decode cX2_suspect 31 = .ok (.iload_n 3, 1) := by decide +kernel
theorem dX2_suspect_32 : decode cX2_suspect 32 = .ok (.invokestatic 39, 3) := by decide +kernel
theorem dX2_suspect_35 : decode cX2_suspect 35 = .ok (.ifCond .eq 30, 3) := by decide +kernel
theorem dX2_suspect_38 : decode cX2_suspect 38 = .ok (.iload_n 3, 1) := by decide +kernel
theorem dX2_suspect_39 : decode cX2_suspect 39 = .ok (.iload_n 1, 1) := by decide +kernel
theorem dX2_suspect_40 : decode cX2_suspect 40 = .ok (.if_icmp .eq 25, 3) := by decide +kernel
theorem dX2_suspect_43 : decode cX2_suspect 43 = .ok (.iload_n 2, 1) := by decide +kernel
theorem dX2_suspect_44 : decode cX2_suspect 44 = .ok (.iconst (-1), 1) := by decide +kernel
theorem dX2_suspect_45 : decode cX2_suspect 45 = .ok (.if_icmp .eq 18, 3) := by decide +kernel
theorem dX2_suspect_48 : decode cX2_suspect 48 = .ok (.aload_n 0, 1) := by decide +kernel
theorem dX2_suspect_49 : decode cX2_suspect 49 = .ok (.getfield 17, 3) := by decide +kernel
theorem dX2_suspect_52 : decode cX2_suspect 52 = .ok (.iload_n 3, 1) := by decide +kernel
theorem dX2_suspect_53 : decode cX2_suspect 53 = .ok (.iaload, 1) := by decide +kernel
theorem dX2_suspect_54 : decode cX2_suspect 54 = .ok (.aload_n 0, 1) := by decide +kernel
theorem dX2_suspect_55 : decode cX2_suspect 55 = .ok (.getfield 17, 3) := by decide +kernel
theorem dX2_suspect_58 : decode cX2_suspect 58 = .ok (.iload_n 2, 1) := by decide +kernel
theorem dX2_suspect_59 : decode cX2_suspect 59 = .ok (.iaload, 1) := by decide +kernel
theorem dX2_suspect_60 : decode cX2_suspect 60 = .ok (.if_icmp .le 5, 3) := by decide +kernel
theorem dX2_suspect_63 : decode cX2_suspect 63 = .ok (.iload_n 3, 1) := by decide +kernel
theorem dX2_suspect_64 : decode cX2_suspect 64 = .ok (.istore_n 2, 1) := by decide +kernel
theorem dX2_suspect_65 : decode cX2_suspect 65 = .ok (.iinc 3 1, 3) := by decide +kernel
theorem dX2_suspect_68 : decode cX2_suspect 68 = .ok (.goto (-49), 3) := by decide +kernel
theorem dX2_suspect_71 : decode cX2_suspect 71 = .ok (.iload_n 2, 1) := by decide +kernel
theorem dX2_suspect_72 : decode cX2_suspect 72 = .ok (.ireturn, 1) := by decide +kernel
set_option maxRecDepth 20000 in
theorem ggX2_bestLook_X2_isGame : GoodIn wsX2_bestLook wsX2_isGame := goodIn_r _ [9, 10, 11, 42, 43, 44, 45, 46, 47, 48, 49, 50, 51, 52, 53, 54, 55, 56, 57] (by decide +kernel) (by decide +kernel)
set_option maxRecDepth 20000 in
theorem gX2_bestLook_X2_isGame : GoodIn wsX2_bestLook (wsV RX2 108 RX2 yX2_isGame wsX2_isGame) := goodIn_app (goodIn_of _ (by decide +kernel)) ggX2_bestLook_X2_isGame
set_option maxRecDepth 20000 in
theorem ggX2_bestLook_X2_laysWitches : GoodIn wsX2_bestLook wsX2_laysWitches := goodIn_r _ [15, 2, 3, 16, 17, 18, 8, 19, 20, 21, 22, 23, 24, 25, 26, 27, 28, 29, 30, 31, 32, 33, 34, 35, 36, 1, 37, 42, 43, 44, 45, 46, 47, 48, 49, 50, 51, 52, 53, 54, 55, 56, 57] (by decide +kernel) (by decide +kernel)
set_option maxRecDepth 20000 in
theorem gX2_bestLook_X2_laysWitches : GoodIn wsX2_bestLook (wsV RX2 132 RX2 yX2_laysWitches wsX2_laysWitches) := goodIn_app (goodIn_of _ (by decide +kernel)) ggX2_bestLook_X2_laysWitches
set_option maxRecDepth 20000 in
theorem ggX2_bestLook_X2_manyFor : GoodIn wsX2_bestLook wsX2_manyFor := goodIn_r _ [41, 27, 28, 29, 8, 30, 20, 31, 32, 33, 34, 35, 36, 1, 37, 21, 22, 23, 24, 25, 26, 42, 43, 44, 45, 46, 47, 48, 49, 50, 51, 52, 53, 54, 55, 56, 57] (by decide +kernel) (by decide +kernel)
set_option maxRecDepth 20000 in
theorem gX2_bestLook_X2_manyFor : GoodIn wsX2_bestLook (wsV RX2 121 RX2 yX2_manyFor wsX2_manyFor) := goodIn_app (goodIn_of _ (by decide +kernel)) ggX2_bestLook_X2_manyFor
set_option maxRecDepth 20000 in
theorem ggX2_bestLook_X2_has : GoodIn wsX2_bestLook wsX2_has := goodIn_r _ [26] (by decide +kernel) (by decide +kernel)
set_option maxRecDepth 20000 in
theorem gX2_bestLook_X2_has : GoodIn wsX2_bestLook (va_wsS RX2 39 yX2_has wsX2_has) := goodIn_app (goodIn_of _ (by decide +kernel)) ggX2_bestLook_X2_has
theorem dX2_bestLook_0 : decode cX2_bestLook 0 = .ok (.aload_n 0, 1) := by decide +kernel
theorem dX2_bestLook_1 : decode cX2_bestLook 1 = .ok (.invokevirtual 108, 3) := by decide +kernel
theorem dX2_bestLook_4 : decode cX2_bestLook 4 = .ok (.ifCond .ne 5, 3) := by decide +kernel
theorem dX2_bestLook_7 : decode cX2_bestLook 7 = .ok (.iconst 0, 1) := by decide +kernel
theorem dX2_bestLook_8 : decode cX2_bestLook 8 = .ok (.ireturn, 1) := by decide +kernel
theorem dX2_bestLook_9 : decode cX2_bestLook 9 = .ok (.aload_n 0, 1) := by decide +kernel
theorem dX2_bestLook_10 : decode cX2_bestLook 10 = .ok (.aload_n 0, 1) := by decide +kernel
theorem dX2_bestLook_11 : decode cX2_bestLook 11 = .ok (.getfield 46, 3) := by decide +kernel
theorem dX2_bestLook_14 : decode cX2_bestLook 14 = .ok (.invokevirtual 132, 3) := by decide +kernel
theorem dX2_bestLook_17 : decode cX2_bestLook 17 = .ok (.aload_n 0, 1) := by decide +kernel
theorem dX2_bestLook_18 : decode cX2_bestLook 18 = .ok (.aload_n 0, 1) := by decide +kernel
theorem dX2_bestLook_19 : decode cX2_bestLook 19 = .ok (.getfield 46, 3) := by decide +kernel
theorem dX2_bestLook_22 : decode cX2_bestLook 22 = .ok (.invokevirtual 121, 3) := by decide +kernel
theorem dX2_bestLook_25 : decode cX2_bestLook 25 = .ok (.istore_n 1, 1) := by decide +kernel
theorem dX2_bestLook_26 : decode cX2_bestLook 26 = .ok (.iconst (-1), 1) := by decide +kernel
theorem dX2_bestLook_27 : decode cX2_bestLook 27 = .ok (.istore_n 2, 1) := by decide +kernel
theorem dX2_bestLook_28 : decode cX2_bestLook 28 = .ok (.iconst 0, 1) := by decide +kernel
theorem dX2_bestLook_29 : decode cX2_bestLook 29 = .ok (.istore_n 3, 1) := by decide +kernel
theorem dX2_bestLook_30 : decode cX2_bestLook 30 = .ok (.iconst 0, 1) := by decide +kernel
theorem dX2_bestLook_31 : decode cX2_bestLook 31 = .ok (.istore 4, 2) := by decide +kernel
theorem dX2_bestLook_33 : decode cX2_bestLook 33 = .ok (.iload 4, 2) := by decide +kernel
theorem dX2_bestLook_35 : decode cX2_bestLook 35 = .ok (.aload_n 0, 1) := by decide +kernel
theorem dX2_bestLook_36 : decode cX2_bestLook 36 = .ok (.getfield 24, 3) := by decide +kernel
theorem dX2_bestLook_39 : decode cX2_bestLook 39 = .ok (.if_icmp .ge 87, 3) := by decide +kernel
theorem dX2_bestLook_42 : decode cX2_bestLook 42 = .ok (.aload_n 0, 1) := by decide +kernel
theorem dX2_bestLook_43 : decode cX2_bestLook 43 = .ok (.getfield 17, 3) := by decide +kernel
theorem dX2_bestLook_46 : decode cX2_bestLook 46 = .ok (.iload 4, 2) := by decide +kernel
theorem dX2_bestLook_48 : decode cX2_bestLook 48 = .ok (.iaload, 1) := by decide +kernel
theorem dX2_bestLook_49 : decode cX2_bestLook 49 = .ok (.iload_n 1, 1) := by decide +kernel
theorem dX2_bestLook_50 : decode cX2_bestLook 50 = .ok (.aload_n 0, 1) := by decide +kernel
theorem dX2_bestLook_51 : decode cX2_bestLook 51 = .ok (.getfield 17, 3) := by decide +kernel
theorem dX2_bestLook_54 : decode cX2_bestLook 54 = .ok (.iload 4, 2) := by decide +kernel
theorem dX2_bestLook_56 : decode cX2_bestLook 56 = .ok (.iaload, 1) := by decide +kernel
theorem dX2_bestLook_57 : decode cX2_bestLook 57 = .ok (.isub, 1) := by decide +kernel
theorem dX2_bestLook_58 : decode cX2_bestLook 58 = .ok (.if_icmp .le 13, 3) := by decide +kernel
theorem dX2_bestLook_61 : decode cX2_bestLook 61 = .ok (.aload_n 0, 1) := by decide +kernel
theorem dX2_bestLook_62 : decode cX2_bestLook 62 = .ok (.getfield 17, 3) := by decide +kernel
theorem dX2_bestLook_65 : decode cX2_bestLook 65 = .ok (.iload 4, 2) := by decide +kernel
theorem dX2_bestLook_67 : decode cX2_bestLook 67 = .ok (.iaload, 1) := by decide +kernel
theorem dX2_bestLook_68 : decode cX2_bestLook 68 = .ok (.goto 12, 3) := by decide +kernel
theorem dX2_bestLook_71 : decode cX2_bestLook 71 = .ok (.iload_n 1, 1) := by decide +kernel
theorem dX2_bestLook_72 : decode cX2_bestLook 72 = .ok (.aload_n 0, 1) := by decide +kernel
theorem dX2_bestLook_73 : decode cX2_bestLook 73 = .ok (.getfield 17, 3) := by decide +kernel
theorem dX2_bestLook_76 : decode cX2_bestLook 76 = .ok (.iload 4, 2) := by decide +kernel
theorem dX2_bestLook_78 : decode cX2_bestLook 78 = .ok (.iaload, 1) := by decide +kernel
theorem dX2_bestLook_79 : decode cX2_bestLook 79 = .ok (.isub, 1) := by decide +kernel
theorem dX2_bestLook_80 : decode cX2_bestLook 80 = .ok (.istore 5, 2) := by decide +kernel
theorem dX2_bestLook_82 : decode cX2_bestLook 82 = .ok (.aload_n 0, 1) := by decide +kernel
theorem dX2_bestLook_83 : decode cX2_bestLook 83 = .ok (.getfield 67, 3) := by decide +kernel
theorem dX2_bestLook_86 : decode cX2_bestLook 86 = .ok (.iload 4, 2) := by decide +kernel
theorem dX2_bestLook_88 : decode cX2_bestLook 88 = .ok (.invokestatic 39, 3) := by decide +kernel
theorem dX2_bestLook_91 : decode cX2_bestLook 91 = .ok (.ifCond .eq 29, 3) := by decide +kernel
theorem dX2_bestLook_94 : decode cX2_bestLook 94 = .ok (.iload 4, 2) := by decide +kernel
theorem dX2_bestLook_96 : decode cX2_bestLook 96 = .ok (.aload_n 0, 1) := by decide +kernel
theorem dX2_bestLook_97 : decode cX2_bestLook 97 = .ok (.getfield 46, 3) := by decide +kernel
theorem dX2_bestLook_100 : decode cX2_bestLook 100 = .ok (.if_icmp .eq 20, 3) := by decide +kernel
theorem dX2_bestLook_103 : decode cX2_bestLook 103 = .ok (.iload_n 2, 1) := by decide +kernel
theorem dX2_bestLook_104 : decode cX2_bestLook 104 = .ok (.iconst (-1), 1) := by decide +kernel
theorem dX2_bestLook_105 : decode cX2_bestLook 105 = .ok (.if_icmp .eq 9, 3) := by decide +kernel
theorem dX2_bestLook_108 : decode cX2_bestLook 108 = .ok (.iload 5, 2) := by decide +kernel
theorem dX2_bestLook_110 : decode cX2_bestLook 110 = .ok (.iload_n 3, 1) := by decide +kernel
theorem dX2_bestLook_111 : decode cX2_bestLook 111 = .ok (.if_icmp .ge 9, 3) := by decide +kernel
theorem dX2_bestLook_114 : decode cX2_bestLook 114 = .ok (.iload 4, 2) := by decide +kernel
theorem dX2_bestLook_116 : decode cX2_bestLook 116 = .ok (.istore_n 2, 1) := by decide +kernel
theorem dX2_bestLook_117 : decode cX2_bestLook 117 = .ok (.iload 5, 2) := by decide +kernel
theorem dX2_bestLook_119 : decode cX2_bestLook 119 = .ok (.istore_n 3, 1) := by decide +kernel
theorem dX2_bestLook_120 : decode cX2_bestLook 120 = .ok (.iinc 4 1, 3) := by decide +kernel
theorem dX2_bestLook_123 : decode cX2_bestLook 123 = .ok (.goto (-90), 3) := by decide +kernel
theorem dX2_bestLook_126 : decode cX2_bestLook 126 = .ok (.iload_n 2, 1) := by decide +kernel
theorem dX2_bestLook_127 : decode cX2_bestLook 127 = .ok (.ireturn, 1) := by decide +kernel
set_option maxRecDepth 20000 in
theorem ggX2_isPossible_X2_isViewer : GoodIn wsX2_isPossible wsX2_isViewer := goodIn_r _ [8, 9, 10, 11, 7, 12, 3, 13, 14, 15, 35, 36, 37, 38, 39, 40, 41, 42, 43, 44, 45, 46, 47, 48, 49, 50] (by decide +kernel) (by decide +kernel)
set_option maxRecDepth 20000 in
theorem gX2_isPossible_X2_isViewer : GoodIn wsX2_isPossible (wsV RX2 112 RX2 yX2_isViewer wsX2_isViewer) := goodIn_app (goodIn_of _ (by decide +kernel)) ggX2_isPossible_X2_isViewer
set_option maxRecDepth 20000 in
theorem ggX2_isPossible_X2_isPlayer : GoodIn wsX2_isPossible wsX2_isPlayer := goodIn_r _ [12, 3, 13, 14, 7, 15, 35, 36, 37, 38, 39, 40, 41, 42, 43, 44, 45, 46, 47, 48, 49, 50] (by decide +kernel) (by decide +kernel)
set_option maxRecDepth 20000 in
theorem gX2_isPossible_X2_isPlayer : GoodIn wsX2_isPossible (wsV RX2 31 RX2 yX2_isPlayer wsX2_isPlayer) := goodIn_app (goodIn_of _ (by decide +kernel)) ggX2_isPossible_X2_isPlayer
set_option maxRecDepth 20000 in
theorem ggX2_isPossible_X2_in : GoodIn wsX2_isPossible wsX2_in := goodIn_r _ [15] (by decide +kernel) (by decide +kernel)
set_option maxRecDepth 20000 in
theorem gX2_isPossible_X2_in : GoodIn wsX2_isPossible (va_wsS RX2 27 yX2_in wsX2_in) := goodIn_app (goodIn_of _ (by decide +kernel)) ggX2_isPossible_X2_in
set_option maxRecDepth 20000 in
theorem ggX2_isPossible_X2_isFor : GoodIn wsX2_isPossible wsX2_isFor := goodIn_r _ [19, 20, 21, 22, 23, 24, 25, 7, 26, 27, 28, 29, 30, 31, 32, 33, 34, 35, 36, 37, 38, 39, 40, 41, 42, 43, 44, 45, 46, 47, 48, 49, 50] (by decide +kernel) (by decide +kernel)
set_option maxRecDepth 20000 in
theorem gX2_isPossible_X2_isFor : GoodIn wsX2_isPossible (wsV RX2 115 RX2 yX2_isFor wsX2_isFor) := goodIn_app (goodIn_of _ (by decide +kernel)) ggX2_isPossible_X2_isFor
theorem dX2_isPossible_0 : decode cX2_isPossible 0 = .ok (.aload_n 0, 1) := by decide +kernel
theorem dX2_isPossible_1 : decode cX2_isPossible 1 = .ok (.aload_n 0, 1) := by decide +kernel
theorem dX2_isPossible_2 : decode cX2_isPossible 2 = .ok (.getfield 70, 3) := by decide +kernel
theorem dX2_isPossible_5 : decode cX2_isPossible 5 = .ok (.ifCond .ne 7, 3) := by decide +kernel
theorem dX2_isPossible_8 : decode cX2_isPossible 8 = .ok (.iconst 1, 1) := by decide +kernel
theorem dX2_isPossible_9 : decode cX2_isPossible 9 = .ok (.goto 33, 3) := by decide +kernel
theorem dX2_isPossible_12 : decode cX2_isPossible 12 = .ok (.aload_n 0, 1) := by decide +kernel
theorem dX2_isPossible_13 : decode cX2_isPossible 13 = .ok (.iload_n 1, 1) := by decide +kernel
theorem dX2_isPossible_14 : decode cX2_isPossible 14 = .ok (.invokevirtual 112, 3) := by decide +kernel
theorem dX2_isPossible_17 : decode cX2_isPossible 17 = .ok (.ifCond .eq 24, 3) := by decide +kernel
theorem dX2_isPossible_20 : decode cX2_isPossible 20 = .ok (.aload_n 0, 1) := by decide +kernel
theorem dX2_isPossible_21 : decode cX2_isPossible 21 = .ok (.iload_n 3, 1) := by decide +kernel
theorem dX2_isPossible_22 : decode cX2_isPossible 22 = .ok (.invokevirtual 31, 3) := by decide +kernel
theorem dX2_isPossible_25 : decode cX2_isPossible 25 = .ok (.ifCond .eq 16, 3) := by decide +kernel
theorem dX2_isPossible_28 : decode cX2_isPossible 28 = .ok (.aload_n 0, 1) := by decide +kernel
theorem dX2_isPossible_29 : decode cX2_isPossible 29 = .ok (.iload 4, 2) := by decide +kernel
theorem dX2_isPossible_31 : decode cX2_isPossible 31 = .ok (.invokevirtual 31, 3) := by decide +kernel
theorem dX2_isPossible_34 : decode cX2_isPossible 34 = .ok (.ifCond .eq 7, 3) := by decide +kernel
theorem dX2_isPossible_37 : decode cX2_isPossible 37 = .ok (.iconst 0, 1) := by decide +kernel
theorem dX2_isPossible_38 : decode cX2_isPossible 38 = .ok (.goto 4, 3) := by decide +kernel
theorem dX2_isPossible_41 : decode cX2_isPossible 41 = .ok (.iconst 2, 1) := by decide +kernel
theorem dX2_isPossible_42 : decode cX2_isPossible 42 = .ok (.putfield 20, 3) := by decide +kernel
theorem dX2_isPossible_45 : decode cX2_isPossible 45 = .ok (.aload_n 0, 1) := by decide +kernel
theorem dX2_isPossible_46 : decode cX2_isPossible 46 = .ok (.getfield 20, 3) := by decide +kernel
theorem dX2_isPossible_49 : decode cX2_isPossible 49 = .ok (.ifCond .ne 23, 3) := by decide +kernel
theorem dX2_isPossible_52 : decode cX2_isPossible 52 = .ok (.iload_n 2, 1) := by decide +kernel
theorem dX2_isPossible_53 : decode cX2_isPossible 53 = .ok (.iconst 0, 1) := by decide +kernel
theorem dX2_isPossible_54 : decode cX2_isPossible 54 = .ok (.iconst 1, 1) := by decide +kernel
theorem dX2_isPossible_55 : decode cX2_isPossible 55 = .ok (.aload_n 0, 1) := by decide +kernel
theorem dX2_isPossible_56 : decode cX2_isPossible 56 = .ok (.getfield 24, 3) := by decide +kernel
theorem dX2_isPossible_59 : decode cX2_isPossible 59 = .ok (.ishl, 1) := by decide +kernel
theorem dX2_isPossible_60 : decode cX2_isPossible 60 = .ok (.iconst 1, 1) := by decide +kernel
theorem dX2_isPossible_61 : decode cX2_isPossible 61 = .ok (.isub, 1) := by decide +kernel
theorem dX2_isPossible_62 : decode cX2_isPossible 62 = .ok (.invokestatic 27, 3) := by decide +kernel
theorem dX2_isPossible_65 : decode cX2_isPossible 65 = .ok (.ifCond .eq 7, 3) := by decide +kernel
theorem dX2_isPossible_68 : decode cX2_isPossible 68 = .ok (.iconst 1, 1) := by decide +kernel
theorem dX2_isPossible_69 : decode cX2_isPossible 69 = .ok (.goto 4, 3) := by decide +kernel
theorem dX2_isPossible_72 : decode cX2_isPossible 72 = .ok (.iconst 0, 1) := by decide +kernel
theorem dX2_isPossible_73 : decode cX2_isPossible 73 = .ok (.istore 5, 2) := by decide +kernel
theorem dX2_isPossible_75 : decode cX2_isPossible 75 = .ok (.iload 5, 2) := by decide +kernel
theorem dX2_isPossible_77 : decode cX2_isPossible 77 = .ok (.ifCond .eq 27, 3) := by decide +kernel
theorem dX2_isPossible_80 : decode cX2_isPossible 80 = .ok (.aload_n 0, 1) := by decide +kernel
theorem dX2_isPossible_81 : decode cX2_isPossible 81 = .ok (.iload_n 1, 1) := by decide +kernel
theorem dX2_isPossible_82 : decode cX2_isPossible 82 = .ok (.bipush 64, 2) := by decide +kernel
theorem dX2_isPossible_84 : decode cX2_isPossible 84 = .ok (.iload_n 2, 1) := by decide +kernel
theorem dX2_isPossible_85 : decode cX2_isPossible 85 = .ok (.imul, 1) := by decide +kernel
theorem dX2_isPossible_86 : decode cX2_isPossible 86 = .ok (.bipush 8, 2) := by decide +kernel
theorem dX2_isPossible_88 : decode cX2_isPossible 88 = .ok (.iload_n 3, 1) := by decide +kernel
theorem dX2_isPossible_89 : decode cX2_isPossible 89 = .ok (.imul, 1) := by decide +kernel
theorem dX2_isPossible_90 : decode cX2_isPossible 90 = .ok (.iadd, 1) := by decide +kernel
theorem dX2_isPossible_91 : decode cX2_isPossible 91 = .ok (.iload 4, 2) := by decide +kernel
theorem dX2_isPossible_93 : decode cX2_isPossible 93 = .ok (.iadd, 1) := by decide +kernel
theorem dX2_isPossible_94 : decode cX2_isPossible 94 = .ok (.invokevirtual 115, 3) := by decide +kernel
theorem dX2_isPossible_97 : decode cX2_isPossible 97 = .ok (.ifCond .eq 7, 3) := by decide +kernel
theorem dX2_isPossible_100 : decode cX2_isPossible 100 = .ok (.iconst 1, 1) := by decide +kernel
theorem dX2_isPossible_101 : decode cX2_isPossible 101 = .ok (.goto 4, 3) := by decide +kernel
theorem dX2_isPossible_104 : decode cX2_isPossible 104 = .ok (.iconst 0, 1) := by decide +kernel
theorem dX2_isPossible_105 : decode cX2_isPossible 105 = .ok (.ireturn, 1) := by decide +kernel
end
section
theorem dJ6_bitCount_0f7a4_0 : decode cJ6_bitCount_0f7a4 0 = .ok (.iload_n 0, 1) := by decide +kernel
theorem dJ6_bitCount_0f7a4_1 : decode cJ6_bitCount_0f7a4 1 = .ok (.iload_n 0, 1) := by decide +kernel
theorem dJ6_bitCount_0f7a4_2 : decode cJ6_bitCount_0f7a4 2 = .ok (.iconst 1, 1) := by decide +kernel
theorem dJ6_bitCount_0f7a4_3 : decode cJ6_bitCount_0f7a4 3 = .ok (.iushr, 1) := by decide +kernel
theorem dJ6_bitCount_0f7a4_4 : decode cJ6_bitCount_0f7a4 4 = .ok (.ldc_w 265, 3) := by decide +kernel
theorem dJ6_bitCount_0f7a4_7 : decode cJ6_bitCount_0f7a4 7 = .ok (.iand, 1) := by decide +kernel
theorem dJ6_bitCount_0f7a4_8 : decode cJ6_bitCount_0f7a4 8 = .ok (.isub, 1) := by decide +kernel
theorem dJ6_bitCount_0f7a4_9 : decode cJ6_bitCount_0f7a4 9 = .ok (.istore_n 0, 1) := by decide +kernel
theorem dJ6_bitCount_0f7a4_10 : decode cJ6_bitCount_0f7a4 10 = .ok (.iload_n 0, 1) := by decide +kernel
theorem dJ6_bitCount_0f7a4_11 : decode cJ6_bitCount_0f7a4 11 = .ok (.ldc_w 266, 3) := by decide +kernel
theorem dJ6_bitCount_0f7a4_14 : decode cJ6_bitCount_0f7a4 14 = .ok (.iand, 1) := by decide +kernel
theorem dJ6_bitCount_0f7a4_15 : decode cJ6_bitCount_0f7a4 15 = .ok (.iload_n 0, 1) := by decide +kernel
theorem dJ6_bitCount_0f7a4_16 : decode cJ6_bitCount_0f7a4 16 = .ok (.iconst 2, 1) := by decide +kernel
theorem dJ6_bitCount_0f7a4_17 : decode cJ6_bitCount_0f7a4 17 = .ok (.iushr, 1) := by decide +kernel
theorem dJ6_bitCount_0f7a4_18 : decode cJ6_bitCount_0f7a4 18 = .ok (.ldc_w 266, 3) := by decide +kernel
theorem dJ6_bitCount_0f7a4_21 : decode cJ6_bitCount_0f7a4 21 = .ok (.iand, 1) := by decide +kernel
theorem dJ6_bitCount_0f7a4_22 : decode cJ6_bitCount_0f7a4 22 = .ok (.iadd, 1) := by decide +kernel
theorem dJ6_bitCount_0f7a4_23 : decode cJ6_bitCount_0f7a4 23 = .ok (.istore_n 0, 1) := by decide +kernel
theorem dJ6_bitCount_0f7a4_24 : decode cJ6_bitCount_0f7a4 24 = .ok (.iload_n 0, 1) := by decide +kernel
theorem dJ6_bitCount_0f7a4_25 : decode cJ6_bitCount_0f7a4 25 = .ok (.iload_n 0, 1) := by decide +kernel
theorem dJ6_bitCount_0f7a4_26 : decode cJ6_bitCount_0f7a4 26 = .ok (.iconst 4, 1) := by decide +kernel
theorem dJ6_bitCount_0f7a4_27 : decode cJ6_bitCount_0f7a4 27 = .ok (.iushr, 1) := by decide +kernel
theorem dJ6_bitCount_0f7a4_28 : decode cJ6_bitCount_0f7a4 28 = .ok (.iadd, 1) := by decide +kernel
theorem dJ6_bitCount_0f7a4_29 : decode cJ6_bitCount_0f7a4 29 = .ok (.ldc_w 267, 3) := by decide +kernel
theorem dJ6_bitCount_0f7a4_32 : decode cJ6_bitCount_0f7a4 32 = .ok (.iand, 1) := by decide +kernel
theorem dJ6_bitCount_0f7a4_33 : decode cJ6_bitCount_0f7a4 33 = .ok (.istore_n 0, 1) := by decide +kernel
theorem dJ6_bitCount_0f7a4_34 : decode cJ6_bitCount_0f7a4 34 = .ok (.iload_n 0, 1) := by decide +kernel
theorem dJ6_bitCount_0f7a4_35 : decode cJ6_bitCount_0f7a4 35 = .ok (.iload_n 0, 1) := by decide +kernel
theorem dJ6_bitCount_0f7a4_36 : decode cJ6_bitCount_0f7a4 36 = .ok (.bipush 8, 2) := by decide +kernel
theorem dJ6_bitCount_0f7a4_38 : decode cJ6_bitCount_0f7a4 38 = .ok (.iushr, 1) := by decide +kernel
theorem dJ6_bitCount_0f7a4_39 : decode cJ6_bitCount_0f7a4 39 = .ok (.iadd, 1) := by decide +kernel
theorem dJ6_bitCount_0f7a4_40 : decode cJ6_bitCount_0f7a4 40 = .ok (.istore_n 0, 1) := by decide +kernel
theorem dJ6_bitCount_0f7a4_41 : decode cJ6_bitCount_0f7a4 41 = .ok (.iload_n 0, 1) := by decide +kernel
theorem dJ6_bitCount_0f7a4_42 : decode cJ6_bitCount_0f7a4 42 = .ok (.iload_n 0, 1) := by decide +kernel
theorem dJ6_bitCount_0f7a4_43 : decode cJ6_bitCount_0f7a4 43 = .ok (.bipush 16, 2) := by decide +kernel
theorem dJ6_bitCount_0f7a4_45 : decode cJ6_bitCount_0f7a4 45 = .ok (.iushr, 1) := by decide +kernel
theorem dJ6_bitCount_0f7a4_46 : decode cJ6_bitCount_0f7a4 46 = .ok (.iadd, 1) := by decide +kernel
theorem dJ6_bitCount_0f7a4_47 : decode cJ6_bitCount_0f7a4 47 = .ok (.istore_n 0, 1) := by decide +kernel
theorem dJ6_bitCount_0f7a4_48 : decode cJ6_bitCount_0f7a4 48 = .ok (.iload_n 0, 1) := by decide +kernel
theorem dJ6_bitCount_0f7a4_49 : decode cJ6_bitCount_0f7a4 49 = .ok (.bipush 63, 2) := by decide +kernel
theorem dJ6_bitCount_0f7a4_51 : decode cJ6_bitCount_0f7a4 51 = .ok (.iand, 1) := by decide +kernel
theorem dJ6_bitCount_0f7a4_52 : decode cJ6_bitCount_0f7a4 52 = .ok (.ireturn, 1) := by decide +kernel
theorem dJ9_max_7cf53_0 : decode cJ9_max_7cf53 0 = .ok (.iload_n 0, 1) := by decide +kernel
theorem dJ9_max_7cf53_1 : decode cJ9_max_7cf53 1 = .ok (.iload_n 1, 1) := by decide +kernel
theorem dJ9_max_7cf53_2 : decode cJ9_max_7cf53 2 = .ok (.if_icmp .lt 7, 3) := by decide +kernel
theorem dJ9_max_7cf53_5 : decode cJ9_max_7cf53 5 = .ok (.iload_n 0, 1) := by decide +kernel
theorem dJ9_max_7cf53_6 : decode cJ9_max_7cf53 6 = .ok (.goto 4, 3) := by decide +kernel
theorem dJ9_max_7cf53_9 : decode cJ9_max_7cf53 9 = .ok (.iload_n 1, 1) := by decide +kernel
theorem dJ9_max_7cf53_10 : decode cJ9_max_7cf53 10 = .ok (.ireturn, 1) := by decide +kernel
theorem dJ7_fill_53178_0 : decode cJ7_fill_53178 0 = .ok (.iconst 0, 1) := by decide +kernel
theorem dJ7_fill_53178_1 : decode cJ7_fill_53178 1 = .ok (.istore_n 2, 1) := by decide +kernel
theorem dJ7_fill_53178_2 : decode cJ7_fill_53178 2 = .ok (.aload_n 0, 1) := by decide +kernel
theorem dJ7_fill_53178_3 : decode cJ7_fill_53178 3 = .ok (.arraylength, 1) := by decide +kernel
theorem dJ7_fill_53178_4 : decode cJ7_fill_53178 4 = .ok (.istore_n 3, 1) := by decide +kernel
theorem dJ7_fill_53178_5 : decode cJ7_fill_53178 5 = .ok (.iload_n 2, 1) := by decide +kernel
theorem dJ7_fill_53178_6 : decode cJ7_fill_53178 6 = .ok (.iload_n 3, 1) := by decide +kernel
theorem dJ7_fill_53178_7 : decode cJ7_fill_53178 7 = .ok (.if_icmp .ge 13, 3) := by decide +kernel
theorem dJ7_fill_53178_10 : decode cJ7_fill_53178 10 = .ok (.aload_n 0, 1) := by decide +kernel
theorem dJ7_fill_53178_11 : decode cJ7_fill_53178 11 = .ok (.iload_n 2, 1) := by decide +kernel
theorem dJ7_fill_53178_12 : decode cJ7_fill_53178 12 = .ok (.iload_n 1, 1) := by decide +kernel
theorem dJ7_fill_53178_13 : decode cJ7_fill_53178 13 = .ok (.iastore, 1) := by decide +kernel
theorem dJ7_fill_53178_14 : decode cJ7_fill_53178 14 = .ok (.iinc 2 1, 3) := by decide +kernel
theorem dJ7_fill_53178_17 : decode cJ7_fill_53178 17 = .ok (.goto (-12), 3) := by decide +kernel
theorem dJ7_fill_53178_20 : decode cJ7_fill_53178 20 = .ok (.return_, 1) := by decide +kernel
set_option maxRecDepth 20000 in
theorem ggL_start_X1_start : GoodIn wsL_start wsX1_start := goodIn_ca (goodIn_r _ [6, 7, 8, 9, 10, 11, 12, 13, 14, 15, 16, 17, 18, 19, 20, 5, 21, 22, 23, 24, 25, 26, 27, 28, 29, 30, 31, 32, 33, 34, 35, 36, 37, 38, 39, 40, 41, 42, 43, 44, 45, 46, 47, 48, 49, 50, 51, 52, 53, 54, 55, 56, 57, 58, 59, 60, 61, 62, 63, 64, 65, 66, 67, 68, 69, 70, 71, 72, 73, 74, 75, 76, 77, 78, 79, 80, 81, 82, 83, 84, 85, 86, 87, 88, 89, 90, 91, 92, 93, 94, 95, 96, 97, 98, 99, 100, 101, 102, 103, 104] (by decide +kernel) (by decide +kernel)) (goodIn_sub (fun _ h => List.mem_cons_of_mem _ (List.mem_append_right _ h)) (by decide +kernel))
set_option maxRecDepth 20000 in
theorem gL_start_X1_start : GoodIn wsL_start (wsV RL 7 RX1 yX1_start wsX1_start) := goodIn_app (goodIn_of _ (by decide +kernel)) ggL_start_X1_start
end
section
/-! the base: what all contracts here share. Kinds of contracts: Rd (reads, answers an int), Rv (reads, answers nothing), Mi, Mv (change the world), Tx (throws, the world as it was) -/
def bI (b : Bool) : Int32 := if b = true then 1 else 0
theorem bI_t : bI true = 1 := rfl
theorem bI_f : bI false = 0 := rfl
theorem bI_0 {b : Bool} (h : bI b = 0) : b = false := by
  cases b
  · rfl
  · exact absurd h (by decide)
theorem bI_1 {b : Bool} (h : ¬ bI b = 0) : b = true := by
  cases b
  · exact absurd rfl h
  · rfl
theorem bI_nar (b : Bool) : narrow .boolean (.int (bI b)) = .int (bI b) := by cases b <;> rfl
theorem bI_vnar (b : Bool) : vp_nar .boolean (bI b) = bI b := by cases b <;> rfl
abbrev tys9 (cI cZ cJ : ClassId) : List (ClassId × FieldType) := [(cI, .int), (cZ, .boolean), (cJ, .long)]
/-- the links to private members of a nest mate -/
def nlL : List (String × Nat × MethodName) := [(RX1, 11, yX0_init), (RX1, 82, yX0_open), (RX0, 25, yX1_witchesOf), (RX0, 34, yX1_everyone), (RX0, 41, yX1_isHonestIn), (RX0, 45, yX1_worldOf), (RX1, 89, yX0_count), (RX1, 197, yX0_allowsClaim), (RX0, 48, yX1_setOf), (RX1, 206, yX0_keepClaim), (RX1, 150, yX0_countWithRole), (RX0, 59, yX1_roleBits), (RX0, 62, yX1_bitOfRole), (RX1, 153, yX0_witchesInAll), (RX1, 156, yX0_witchesInAny), (RX1, 159, yX0_countWitchSets), (RX1, 167, yX0_contains)]
/-- the texts of the exceptions -/
def nlS : List (Nat × String) := [(42, "these roles cannot be dealt"), (99, "there is no such kind of claim"), (109, "the set has a player who does not exist"), (118, "the dead neither vote nor are voted for"), (133, "the guard cannot protect this player"), (138, "the witches cannot attack this player"), (140, "the seer cannot look at this player"), (148, "there is no such role"), (173, "there is no game"), (176, "it is not the time for this"), (178, "who would have to do this is dead"), (182, "there is no such player"), (203, "this player cannot claim this now")]
def nlC : List String := ["java/lang/IllegalStateException", "java/lang/IndexOutOfBoundsException", "java/lang/IllegalArgumentException", "java/util/NoSuchElementException"]
/-- the words that no list of a method holds: they speak of the classes alone -/
def NM (U : State) : Prop := (∀ q ∈ nlL, va_Nw (.methodLinkNest q.1 q.2.1 q.2.2 RX1) U) ∧ (∀ q ∈ nlS, ∃ sa : Nat, vk_R RX1 q.1 q.2 sa U) ∧ ∀ x ∈ nlC, va_Nw (.castable x x) U
theorem NM.same {u U : State} (h : u.vm = U.vm) (k : NM u) : NM U :=
  ⟨fun q hq => va_Nw.same rfl h (k.1 q hq), fun q hq => by obtain ⟨sa, h1⟩ := k.2.1 q hq; exact ⟨sa, vk_R.same h.symm h1⟩, fun x hx => va_Nw.same rfl h (k.2.2 x hx)⟩
theorem NM.warm {s U : State} (hW : s.WarmedH U.vm) (k : NM s) : NM U :=
  ⟨fun q hq => va_Nw.warmM hW (k.1 q hq), fun q hq => by obtain ⟨sa, h1⟩ := k.2.1 q hq; exact ⟨sa, vk_R.warm hW h1⟩, fun x hx => va_Nw.warmC hW (k.2.2 x hx)⟩
theorem NM.link {s : State} (k : NM s) (i : Nat) {q : String × Nat × MethodName} (h : nlL[i]? = some q) : va_Nw (.methodLinkNest q.1 q.2.1 q.2.2 RX1) s := k.1 q (List.mem_of_getElem? h)
/-- the static fields of Throwable that a throw reads -/
def ZQ (A : Nat → Prop) (U : State) (H : Heap) : Prop := vx_Zq Bundle.tN "UNASSIGNED_STACK" Bundle.steD A U H ∧ vx_Zq Bundle.tN "SUPPRESSED_SENTINEL" Bundle.listD A U H
theorem ZQ.moved {A : Nat → Prop} {u U : State} {H : Heap} (hvm : u.vm.Alike U.vm) (h : ZQ A u H) : ZQ A U H := ⟨vx_Zq.moved hvm h.1, vx_Zq.moved hvm h.2⟩
theorem ZQ.kept {A : Nat → Prop} {U : State} {H H1 : Heap} (h : ZQ A U H) (hq : ∀ a : Nat, a < H.size → ¬ A a → H1[a]? = H[a]?) : ZQ A U H1 := ⟨vx_Zq.kept h.1 hq, vx_Zq.kept h.2 hq⟩
theorem ZQ.narrow {A B : Nat → Prop} {U : State} {H : Heap} (h : ZQ A U H) (hAB : ∀ q, B q → A q) : ZQ B U H := ⟨vx_Zq.narrow h.1 hAB, vx_Zq.narrow h.2 hAB⟩
theorem ZQ.S {A : Nat → Prop} {s : State} {H : Heap} {locs : List Loc} (h : ZQ A s s.heap) (hS : va_S A s.heap H locs) : ZQ A s H := h.kept hS.2.1
abbrev rmR (fr lo : Nat) : Room := { frames := fr, cells := 0, slots := 0, locals := lo }
abbrev rmX (fr lo : Nat) : Room := { frames := fr, cells := 1, slots := 6, locals := lo }
def RB (D : va_G) (cI cZ cJ : ClassId) (W0 : va_W) (U : State) : Prop := va_P D vwCl W0 U.heap ∧ va_K D vwCl (tys9 cI cZ cJ) U ∧ NM U
def MB (D : va_G) (cI cZ cJ : ClassId) (W0 : va_W) (sz : Nat) (U : State) : Prop := U.heap.size = sz ∧ va_P D vwCl W0 U.heap ∧ va_K D vwCl (tys9 cI cZ cJ) U ∧ NM U ∧ va_D (fun _ => True) W0
def XB (D : va_G) (cI cZ cJ : ClassId) (W0 : va_W) (sz : Nat) (U : State) : Prop := MB D cI cZ cJ W0 sz U ∧ ZQ (va_A W0 sz) U U.heap
theorem RB.blind {D : va_G} {cI cZ cJ : ClassId} {W0 : va_W} {av : List Value} : FrameBlind (va_Pc av (RB D cI cZ cJ W0)) := fun a U g mk q => ⟨q.1, q.2.1, va_K.moved (u := U) (U := U.calling g mk a) (Vm.Alike.refl U.vm) q.2.2.1, NM.same (u := U) rfl q.2.2.2⟩
theorem MB.blind {D : va_G} {cI cZ cJ : ClassId} {W0 : va_W} {sz : Nat} {av : List Value} : FrameBlind (va_Pc av (MB D cI cZ cJ W0 sz)) := fun a U g mk q => ⟨q.1, q.2.1, q.2.2.1, va_K.moved (u := U) (U := U.calling g mk a) (Vm.Alike.refl U.vm) q.2.2.2.1, NM.same (u := U) rfl q.2.2.2.2.1, q.2.2.2.2.2⟩
theorem XB.blind {D : va_G} {cI cZ cJ : ClassId} {W0 : va_W} {sz : Nat} {av : List Value} : FrameBlind (va_Pc av (XB D cI cZ cJ W0 sz)) := fun a U g mk q => ⟨q.1, ⟨q.2.1.1, q.2.1.2.1, va_K.moved (u := U) (U := U.calling g mk a) (Vm.Alike.refl U.vm) q.2.1.2.2.1, NM.same (u := U) rfl q.2.1.2.2.2.1, q.2.1.2.2.2.2⟩, ZQ.moved (u := U) (U := U.calling g mk a) (Vm.Alike.refl U.vm) q.2.2⟩
def QcV : Array Value → State → Outcome → State → Prop := fun _ st o t => o = .returned none ∧ t.heap = st.heap
/-- reads its world, answers v -/
def Rd (l : Launch) (D : va_G) (cI cZ cJ : ClassId) (y : MethodName) (ws : List Cond) (fr lo : Nat) (av : List Value) (W0 : va_W) (v : Int32) : Prop := Met l y ws (rmR fr lo) (va_Pc av (RB D cI cZ cJ W0)) (vp_Si (fun r => r = v)) 0 0 (fun _ => False)
/-- reads its world, answers nothing -/
def Rv (l : Launch) (D : va_G) (cI cZ cJ : ClassId) (y : MethodName) (ws : List Cond) (fr lo : Nat) (av : List Value) (W0 : va_W) : Prop := Met l y ws (rmR fr lo) (va_Pc av (RB D cI cZ cJ W0)) QcV 0 0 (fun _ => False)
/-- makes W1 of the world W0, answers v -/
def Mi (l : Launch) (D : va_G) (cI cZ cJ : ClassId) (y : MethodName) (ws : List Cond) (fr lo sz : Nat) (av : List Value) (W0 W1 : va_W) (v : Int32) : Prop := Met l y ws (rmR fr lo) (va_Pc av (MB D cI cZ cJ W0 sz)) (va_Qi (fun r (_ : Unit) => r = v) (fun _ t => va_P D vwCl W1 t.heap) (va_A W0 sz)) 0 0 (va_A W0 sz)
/-- makes W1 of the world W0, answers nothing -/
def Mv (l : Launch) (D : va_G) (cI cZ cJ : ClassId) (y : MethodName) (ws : List Cond) (fr lo sz : Nat) (av : List Value) (W0 W1 : va_W) : Prop := Met l y ws (rmR fr lo) (va_Pc av (MB D cI cZ cJ W0 sz)) (va_Qv (fun (_ : Unit) => True) (fun _ t => va_P D vwCl W1 t.heap) (va_A W0 sz)) 0 0 (va_A W0 sz)
def xnm (k : Int32) : String := if k = 1 then "java/lang/IllegalStateException" else if k = 2 then "java/lang/IndexOutOfBoundsException" else if k = 3 then "java/lang/IllegalArgumentException" else "java/util/NoSuchElementException"
/-- throws the exception xnm k, its world as it was -/
def Tx (l : Launch) (D : va_G) (cI cZ cJ : ClassId) (y : MethodName) (ws : List Cond) (fr lo sz : Nat) (av : List Value) (W0 : va_W) (k : Int32) : Prop := vx_Met l y ws (rmX fr lo) (va_Pc av (XB D cI cZ cJ W0 sz)) (fun _ _ _ _ => False) (vx_X (fun (_ : Unit) => True) (fun E _ t => E = xnm k ∧ va_P D vwCl W0 t.heap) (va_A W0 sz)) 1 6 (va_A W0 sz)

section BaseOf
variable {l : Launch} {D : va_G} {cI cZ cJ : ClassId} {y : MethodName} {ws ws' : List Cond} {fr lo : Nat} {av : List Value} {W0 W1 : va_W} {v : Int32} {cc : ByteArray} {maxL : Nat} {ret : Option FieldType}
theorem rd_of (hy : plainName y.cls = true) (hw : ws = Cond.code y cc maxL ret :: ws') (hav : (lg_sl av).length ≤ maxL)
    (body : ∀ (p : Program) (e : Env) (s : State) (m : MethodId) (below : List Frame) (meth : Method) (c : Code) (ls : Array Slot), p.tables.exec = Jvm.exec → c.code = cc → meth.sig.returnType = ret → c.maxLocals = maxL → (∀ w ∈ ws, w.before av.toArray s = true) → s.vm.findClass y.cls = some m.cls → meth.locks = false → va_P D vwCl W0 s.heap → va_K D vwCl (tys9 cI cZ cJ) s → NM s → lv_has ls maxL (lv_args 0 av) →
      W p l e (rmR fr lo) s m av.toArray below meth c s.heap [] 0 0 (MQ below (vp_Si (fun r => r = v)) av.toArray s 0 0 (fun _ => False)) (F0 m 0 ls [])) : Rd l D cI cZ cJ y ws fr lo av W0 v := by
  refine Met.ofW (cc := cc) (maxL := maxL) (ret := ret) hy hw ?_
  intro p e s m args below meth c s₁ B hml hv
  obtain ⟨rfl, hP, hK, hN⟩ := hv
  have hl := lv_entry av (n := maxL) hav
  rw [lg_entry_eq]
  exact body p e s m below meth c _ B.exec B.bytes B.returns hml (atoms_spec (ws := ws) B.pre) (findClass_of_methodNamed B.named) B.notSynchronized hP hK hN hl
theorem rv_of (hy : plainName y.cls = true) (hw : ws = Cond.code y cc maxL none :: ws') (hav : (lg_sl av).length ≤ maxL)
    (body : ∀ (p : Program) (e : Env) (s : State) (m : MethodId) (below : List Frame) (meth : Method) (c : Code) (ls : Array Slot), p.tables.exec = Jvm.exec → c.code = cc → meth.sig.returnType = none → c.maxLocals = maxL → (∀ w ∈ ws, w.before av.toArray s = true) → s.vm.findClass y.cls = some m.cls → meth.locks = false → va_P D vwCl W0 s.heap → va_K D vwCl (tys9 cI cZ cJ) s → NM s → lv_has ls maxL (lv_args 0 av) →
      W p l e (rmR fr lo) s m av.toArray below meth c s.heap [] 0 0 (MQ below QcV av.toArray s 0 0 (fun _ => False)) (F0 m 0 ls [])) : Rv l D cI cZ cJ y ws fr lo av W0 := by
  refine Met.ofW (cc := cc) (maxL := maxL) (ret := none) hy hw ?_
  intro p e s m args below meth c s₁ B hml hv
  obtain ⟨rfl, hP, hK, hN⟩ := hv
  have hl := lv_entry av (n := maxL) hav
  rw [lg_entry_eq]
  exact body p e s m below meth c _ B.exec B.bytes B.returns hml (atoms_spec (ws := ws) B.pre) (findClass_of_methodNamed B.named) B.notSynchronized hP hK hN hl
theorem mi_of {sz : Nat} (hy : plainName y.cls = true) (hw : ws = Cond.code y cc maxL ret :: ws') (hav : (lg_sl av).length ≤ maxL)
    (body : ∀ (p : Program) (e : Env) (s : State) (m : MethodId) (below : List Frame) (meth : Method) (c : Code) (ls : Array Slot) (A : Nat → Prop), p.tables.exec = Jvm.exec → c.code = cc → meth.sig.returnType = ret → c.maxLocals = maxL → (∀ w ∈ ws, w.before av.toArray s = true) → s.vm.findClass y.cls = some m.cls → meth.locks = false → (meth.name = y.name) → va_P D vwCl W0 s.heap → va_K D vwCl (tys9 cI cZ cJ) s → NM s → va_D A W0 → (∀ q : Nat, s.heap.size ≤ q → A q) → va_S A s.heap s.heap [] → lv_has ls maxL (lv_args 0 av) →
      W p l e (rmR fr lo) s m av.toArray below meth c s.heap [] 0 0 (MQ below (va_Qi (fun r (_ : Unit) => r = v) (fun _ t => va_P D vwCl W1 t.heap) A) av.toArray s 0 0 A) (F0 m 0 ls [])) : Mi l D cI cZ cJ y ws fr lo sz av W0 W1 v := by
  refine Met.ofW (cc := cc) (maxL := maxL) (ret := ret) hy hw ?_
  intro p e s m args below meth c s₁ B hml hv
  obtain ⟨rfl, hsz, hP, hK, hN, hD0⟩ := hv
  subst hsz
  have hl := lv_entry av (n := maxL) hav
  rw [lg_entry_eq]
  exact body p e s m below meth c _ _ B.exec B.bytes B.returns hml (atoms_spec (ws := ws) B.pre) (findClass_of_methodNamed B.named) B.notSynchronized (name_of_methodNamed B.named B.method).1 hP hK hN (hD0.self (sz := s.heap.size)) (fun q h => Or.inr h) va_S.rf hl
theorem mv_of {sz : Nat} (hy : plainName y.cls = true) (hw : ws = Cond.code y cc maxL none :: ws') (hav : (lg_sl av).length ≤ maxL)
    (body : ∀ (p : Program) (e : Env) (s : State) (m : MethodId) (below : List Frame) (meth : Method) (c : Code) (ls : Array Slot) (A : Nat → Prop), p.tables.exec = Jvm.exec → c.code = cc → meth.sig.returnType = none → c.maxLocals = maxL → (∀ w ∈ ws, w.before av.toArray s = true) → s.vm.findClass y.cls = some m.cls → meth.locks = false → (meth.name = y.name) → va_P D vwCl W0 s.heap → va_K D vwCl (tys9 cI cZ cJ) s → NM s → va_D A W0 → (∀ q : Nat, s.heap.size ≤ q → A q) → va_S A s.heap s.heap [] → lv_has ls maxL (lv_args 0 av) →
      W p l e (rmR fr lo) s m av.toArray below meth c s.heap [] 0 0 (MQ below (va_Qv (fun (_ : Unit) => True) (fun _ t => va_P D vwCl W1 t.heap) A) av.toArray s 0 0 A) (F0 m 0 ls [])) : Mv l D cI cZ cJ y ws fr lo sz av W0 W1 := by
  refine Met.ofW (cc := cc) (maxL := maxL) (ret := none) hy hw ?_
  intro p e s m args below meth c s₁ B hml hv
  obtain ⟨rfl, hsz, hP, hK, hN, hD0⟩ := hv
  subst hsz
  have hl := lv_entry av (n := maxL) hav
  rw [lg_entry_eq]
  exact body p e s m below meth c _ _ B.exec B.bytes B.returns hml (atoms_spec (ws := ws) B.pre) (findClass_of_methodNamed B.named) B.notSynchronized (name_of_methodNamed B.named B.method).1 hP hK hN (hD0.self (sz := s.heap.size)) (fun q h => Or.inr h) va_S.rf hl
theorem tx_of {sz : Nat} {k : Int32} (hy : plainName y.cls = true) (hw : ws = Cond.code y cc maxL ret :: ws') (hav : (lg_sl av).length ≤ maxL)
    (body : ∀ (p : Program) (e : Env) (s : State) (m : MethodId) (below : List Frame) (meth : Method) (c : Code) (ls : Array Slot) (A : Nat → Prop), p.tables.exec = Jvm.exec → c.code = cc → meth.sig.returnType = ret → c.maxLocals = maxL → (∀ w ∈ ws, w.before av.toArray s = true) → s.vm.findClass y.cls = some m.cls → meth.locks = false → (∀ x ∈ c.exceptionTable.toList, False) → va_P D vwCl W0 s.heap → va_K D vwCl (tys9 cI cZ cJ) s → NM s → va_D A W0 → (∀ q : Nat, s.heap.size ≤ q → A q) → va_S A s.heap s.heap [] → ZQ A s s.heap → lv_has ls maxL (lv_args 0 av) →
      W p l e (rmX fr lo) s m av.toArray below meth c s.heap [] 0 0 (vx_MQ below (fun _ _ _ _ => False) (vx_X (fun (_ : Unit) => True) (fun E _ t => E = xnm k ∧ va_P D vwCl W0 t.heap) A) av.toArray s 1 6 A) (F0 m 0 ls [])) : Tx l D cI cZ cJ y ws fr lo sz av W0 k := by
  refine vx_ofW (cc := cc) (maxL := maxL) (ret := ret) hy hw ?_
  intro p e s m args below meth c s₁ B hml ht hv
  obtain ⟨rfl, ⟨hsz, hP, hK, hN, hD0⟩, hZ⟩ := hv
  subst hsz
  have hl := lv_entry av (n := maxL) hav
  rw [lg_entry_eq]
  exact body p e s m below meth c _ _ B.exec B.bytes B.returns hml (atoms_spec (ws := ws) B.pre) (findClass_of_methodNamed B.named) B.notSynchronized ht hP hK hN (hD0.self (sz := s.heap.size)) (fun q h => Or.inr h) va_S.rf hZ hl
end BaseOf

section BaseRet
variable {p : Program} {l : Launch} {e : Env} {R : Room} {s : State} {m : MethodId} {args : Array Value} {below : List Frame} {meth : Method} {c : Code} {cc : ByteArray} {H : Heap} {locs : List Loc} {pc : Nat} {ls : Array Slot} {v v' : Int32} {D : va_G} {W1 : va_W} {A : Nat → Prop}
theorem rd_iret (hx : p.tables.exec = Jvm.exec) (hb : c.code = cc) (hr : meth.sig.returnType = some .int) (hlocks : meth.locks = false) (hp : v' = v) (hdg : decode cc pc = .ok (.ireturn, 1)) : W p l e R s m args below meth c s.heap [] 0 0 (MQ below (vp_Si (fun r => r = v)) args s 0 0 (fun _ => False)) (F0 m pc ls [.int v']) :=
  W.iret hx hb hr (fun t ht _ => ⟨v', rfl, hp, ht⟩) (fun q h => nomatch h) hdg hlocks
theorem rd_zret (hx : p.tables.exec = Jvm.exec) (hb : c.code = cc) (hr : meth.sig.returnType = some .boolean) (hlocks : meth.locks = false) (hp : v' = v) (hn : narrow .boolean (.int v') = .int v') (hdg : decode cc pc = .ok (.ireturn, 1)) : W p l e R s m args below meth c s.heap [] 0 0 (MQ below (vp_Si (fun r => r = v)) args s 0 0 (fun _ => False)) (F0 m pc ls [.int v']) :=
  W.zret hx hb hr hn (fun t ht _ => ⟨v', rfl, hp, ht⟩) (fun q h => nomatch h) hdg hlocks
theorem rv_ret (hx : p.tables.exec = Jvm.exec) (hb : c.code = cc) (hr : meth.sig.returnType = none) (hlocks : meth.locks = false) (hdg : decode cc pc = .ok (.return_, 1)) : W p l e R s m args below meth c s.heap [] 0 0 (MQ below QcV args s 0 0 (fun _ => False)) (F0 m pc ls []) :=
  W.vret hx hb hr (fun t ht _ => ⟨rfl, ht⟩) (fun q h => nomatch h) hdg hlocks
theorem mi_iret (hx : p.tables.exec = Jvm.exec) (hb : c.code = cc) (hr : meth.sig.returnType = some .int) (hlocks : meth.locks = false) (hS : va_S A s.heap H locs) (hp : v' = v) (hP : va_P D vwCl W1 H) (hdg : decode cc pc = .ok (.ireturn, 1)) : W p l e R s m args below meth c H locs 0 0 (MQ below (va_Qi (fun r (_ : Unit) => r = v) (fun _ t => va_P D vwCl W1 t.heap) A) args s 0 0 A) (F0 m pc ls [.int v']) :=
  W.iret hx hb hr (fun t ht _ => ⟨⟨v', (), rfl, hp, by show va_P D vwCl W1 t.heap; rw [ht]; exact hP⟩, hS.F ht⟩) hS.2.2 hdg hlocks
theorem mi_zret (hx : p.tables.exec = Jvm.exec) (hb : c.code = cc) (hr : meth.sig.returnType = some .boolean) (hlocks : meth.locks = false) (hS : va_S A s.heap H locs) (hp : v' = v) (hn : narrow .boolean (.int v') = .int v') (hP : va_P D vwCl W1 H) (hdg : decode cc pc = .ok (.ireturn, 1)) : W p l e R s m args below meth c H locs 0 0 (MQ below (va_Qi (fun r (_ : Unit) => r = v) (fun _ t => va_P D vwCl W1 t.heap) A) args s 0 0 A) (F0 m pc ls [.int v']) :=
  W.zret hx hb hr hn (fun t ht _ => ⟨⟨v', (), rfl, hp, by show va_P D vwCl W1 t.heap; rw [ht]; exact hP⟩, hS.F ht⟩) hS.2.2 hdg hlocks
theorem mv_ret (hx : p.tables.exec = Jvm.exec) (hb : c.code = cc) (hr : meth.sig.returnType = none) (hlocks : meth.locks = false) (hS : va_S A s.heap H locs) (hP : va_P D vwCl W1 H) (hdg : decode cc pc = .ok (.return_, 1)) : W p l e R s m args below meth c H locs 0 0 (MQ below (va_Qv (fun (_ : Unit) => True) (fun _ t => va_P D vwCl W1 t.heap) A) args s 0 0 A) (F0 m pc ls []) :=
  W.vret hx hb hr (fun t ht _ => ⟨⟨(), rfl, trivial, by show va_P D vwCl W1 t.heap; rw [ht]; exact hP⟩, hS.F ht⟩) hS.2.2 hdg hlocks
end BaseRet

section BaseCalls
variable {p : Program} {l : Launch} {e : Env} {R : Room} {s : State} {m : MethodId} {args : Array Value} {below : List Frame} {meth : Method} {c : Code} {cc bytes : ByteArray} {H : Heap} {locs : List Loc} {cells slots : Nat} {Q : State → Prop} {pc : Nat} {ls : Array Slot} {v : Int32} {D : va_G} {cI cZ cJ : ClassId} {ws W0 W1 Wc W2 : va_W} {A : Nat → Prop} {own C host : String} {index maxL nL fr lo n : Nat} {y : MethodName} {ret : Option FieldType} {wy Ts : List Cond} {As rest st0 : List Value} {b : Addr}
/-- a call that reads: the heap is the same behind it -/
theorem rs_call {a : Array Value} (hr : va_Run p l e R s m args below meth c H locs cells slots 0 0 (F0 m pc ls st0) rest (vp_Si (fun r => r = v) a) (fun _ => False))
    (kk : W p l e R s m args below meth c H locs cells slots Q (F0 m (pc + 3) ls (.int v :: rest))) : W p l e R s m args below meth c H locs cells slots Q (F0 m pc ls st0) := by
  intro T hT X
  obtain ⟨v1, st₀, t, T', L, h0, X', hL, e1, -, ⟨r, hv, hp, hh⟩, st⟩ := hr T hT X
  cases hv
  cases hp
  obtain ⟨t2, a1, b1⟩ := kk T' (by rw [e1, hh, h0]) (Stand.forget X' (fun q h => (hL q h).elim))
  exact ⟨t2, st t2 a1, b1⟩
theorem rs_callv {a : Array Value} (hr : va_Run p l e R s m args below meth c H locs cells slots 0 0 (F0 m pc ls st0) rest (QcV a) (fun _ => False))
    (kk : W p l e R s m args below meth c H locs cells slots Q (F0 m (pc + 3) ls rest)) : W p l e R s m args below meth c H locs cells slots Q (F0 m pc ls st0) := by
  intro T hT X
  obtain ⟨v1, st₀, t, T', L, h0, X', hL, e1, -, ⟨hv, hh⟩, st⟩ := hr T hT X
  cases hv
  obtain ⟨t2, a1, b1⟩ := kk T' (by rw [e1, hh, h0]) (Stand.forget X' (fun q h => (hL q h).elim))
  exact ⟨t2, st t2 a1, b1⟩
theorem rb_in (hP : va_P D vwCl W0 H) (hK : va_K D vwCl (tys9 cI cZ cJ) s) (hN : NM s) (As : List Value) : FrameBlind (va_Pc As (RB D cI cZ cJ W0)) ∧ ∀ U : State, U.heap = H → s.WarmedH U.vm → va_Pc As (RB D cI cZ cJ W0) As.toArray U :=
  ⟨RB.blind, fun U hU hW => ⟨rfl, by rw [hU]; exact hP, va_K.moved hW.alike hK, NM.warm hW hN⟩⟩
theorem mb_in (hP : va_P D vwCl W0 H) (hK : va_K D vwCl (tys9 cI cZ cJ) s) (hN : NM s) (hD : va_D A W0) (As : List Value) : FrameBlind (va_Pc As (MB D cI cZ cJ W0 H.size)) ∧ ∀ U : State, U.heap = H → s.WarmedH U.vm → va_Pc As (MB D cI cZ cJ W0 H.size) As.toArray U :=
  ⟨MB.blind, fun U hU hW => ⟨rfl, by rw [hU], by rw [hU]; exact hP, va_K.moved hW.alike hK, NM.warm hW hN, hD.weaken (fun _ _ _ _ => trivial)⟩⟩
theorem xb_in (hP : va_P D vwCl W0 H) (hK : va_K D vwCl (tys9 cI cZ cJ) s) (hN : NM s) (hD : va_D A W0) (hZ : ZQ A s H) (hF : ∀ q, va_A W0 H.size q → A q) (As : List Value) : FrameBlind (va_Pc As (XB D cI cZ cJ W0 H.size)) ∧ ∀ U : State, U.heap = H → s.WarmedH U.vm → va_Pc As (XB D cI cZ cJ W0 H.size) As.toArray U :=
  ⟨XB.blind, fun U hU hW => ⟨rfl, ⟨by rw [hU], by rw [hU]; exact hP, va_K.moved hW.alike hK, NM.warm hW hN, hD.weaken (fun _ _ _ _ => trivial)⟩, by rw [hU]; exact ZQ.moved hW.alike (hZ.narrow hF)⟩⟩
theorem rd_S (S : CallFix p m c cc nL s args Ts own) (hM : Rd l D cI cZ cJ y wy fr lo As W0 v) (cw : CallB R s args own index y bytes maxL ret wy (rmR fr lo) 0 0 n ∧ (Cond.static y).before args s = true)
    (hP : va_P D vwCl W0 H) (hK : va_K D vwCl (tys9 cI cZ cJ) s) (hN : NM s) (hn : As.length = n) (hsize : ls.size = nL) (hst : st0 = As.reverse ++ rest) (hW : (rest.map fun v => v.category).sum ≤ 8) (hdg : decode cc pc = .ok (.invokestatic index, 3)) (hf : cells ≤ R.cells ∧ slots ≤ R.slots)
    (kk : W p l e R s m args below meth c H locs cells slots Q (F0 m (pc + 3) ls (.int v :: rest))) : W p l e R s m args below meth c H locs cells slots Q (F0 m pc ls st0) :=
  rs_call (va_runS (As := As) (rest := rest) S hM cw (rb_in hP hK hN As) rfl hn hsize hst (lv_room hW) hdg hf) kk
theorem rd_SN (S : CallFix p m c cc nL s args Ts own) (hM : Rd l D cI cZ cJ y wy fr lo As W0 v) (cw : va_CN R s args own index y host bytes maxL ret wy (rmR fr lo) 0 0 n ∧ (Cond.static y).before args s = true ∧ True)
    (hP : va_P D vwCl W0 H) (hK : va_K D vwCl (tys9 cI cZ cJ) s) (hN : NM s) (hn : As.length = n) (hsize : ls.size = nL) (hst : st0 = As.reverse ++ rest) (hW : (rest.map fun v => v.category).sum ≤ 8) (hdg : decode cc pc = .ok (.invokestatic index, 3)) (hf : cells ≤ R.cells ∧ slots ≤ R.slots)
    (kk : W p l e R s m args below meth c H locs cells slots Q (F0 m (pc + 3) ls (.int v :: rest))) : W p l e R s m args below meth c H locs cells slots Q (F0 m pc ls st0) :=
  rs_call (va_runSN (As := As) (rest := rest) S hM cw (rb_in hP hK hN As) rfl hn hsize hst (lv_room hW) hdg hf) kk
theorem rd_V (S : CallFix p m c cc nL s args Ts own) (hM : Rd l D cI cZ cJ y wy fr lo (.ref b :: As) W0 v) (cw : CallW R s args own C index y bytes maxL ret wy (rmR fr lo) 0 0 n)
    (hP : va_P D vwCl W0 H) (hK : va_K D vwCl (tys9 cI cZ cJ) s) (hN : NM s) (hrec : ∃ cell : Cell, H[b]? = some cell ∧ cell.vm.isStatics = false ∧ s.vm.findClass C = some cell.cls) (hn : As.length = n) (hsize : ls.size = nL) (hst : st0 = As.reverse ++ .ref b :: rest) (hW : (rest.map fun v => v.category).sum ≤ 8) (hdg : decode cc pc = .ok (.invokevirtual index, 3)) (hf : cells ≤ R.cells ∧ slots ≤ R.slots)
    (kk : W p l e R s m args below meth c H locs cells slots Q (F0 m (pc + 3) ls (.int v :: rest))) : W p l e R s m args below meth c H locs cells slots Q (F0 m pc ls st0) :=
  rs_call (va_runV (As := As) (rest := rest) (b := b) S hM cw ⟨(rb_in hP hK hN (.ref b :: As)).1, hrec, (rb_in hP hK hN (.ref b :: As)).2⟩ rfl hn hsize hst (lv_room hW) hdg hf) kk
theorem rd_VN (S : CallFix p m c cc nL s args Ts own) (hM : Rd l D cI cZ cJ y wy fr lo (.ref b :: As) W0 v) (cw : va_CN R s args own index y host bytes maxL ret wy (rmR fr lo) 0 0 n ∧ (Cond.instanceMethod y).before args s = true ∧ (Cond.selects C y y).before args s = true)
    (hP : va_P D vwCl W0 H) (hK : va_K D vwCl (tys9 cI cZ cJ) s) (hN : NM s) (hrec : ∃ cell : Cell, H[b]? = some cell ∧ cell.vm.isStatics = false ∧ s.vm.findClass C = some cell.cls) (hn : As.length = n) (hsize : ls.size = nL) (hst : st0 = As.reverse ++ .ref b :: rest) (hW : (rest.map fun v => v.category).sum ≤ 8) (hdg : decode cc pc = .ok (.invokevirtual index, 3)) (hf : cells ≤ R.cells ∧ slots ≤ R.slots)
    (kk : W p l e R s m args below meth c H locs cells slots Q (F0 m (pc + 3) ls (.int v :: rest))) : W p l e R s m args below meth c H locs cells slots Q (F0 m pc ls st0) :=
  rs_call (va_runVN (As := As) (rest := rest) (b := b) S hM cw ⟨(rb_in hP hK hN (.ref b :: As)).1, hrec, (rb_in hP hK hN (.ref b :: As)).2⟩ rfl hn hsize hst (lv_room hW) hdg hf) kk
theorem rv_V (S : CallFix p m c cc nL s args Ts own) (hM : Rv l D cI cZ cJ y wy fr lo (.ref b :: As) W0) (cw : CallW R s args own C index y bytes maxL ret wy (rmR fr lo) 0 0 n)
    (hP : va_P D vwCl W0 H) (hK : va_K D vwCl (tys9 cI cZ cJ) s) (hN : NM s) (hrec : ∃ cell : Cell, H[b]? = some cell ∧ cell.vm.isStatics = false ∧ s.vm.findClass C = some cell.cls) (hn : As.length = n) (hsize : ls.size = nL) (hst : st0 = As.reverse ++ .ref b :: rest) (hW : (rest.map fun v => v.category).sum ≤ 8) (hdg : decode cc pc = .ok (.invokevirtual index, 3)) (hf : cells ≤ R.cells ∧ slots ≤ R.slots)
    (kk : W p l e R s m args below meth c H locs cells slots Q (F0 m (pc + 3) ls rest)) : W p l e R s m args below meth c H locs cells slots Q (F0 m pc ls st0) :=
  rs_callv (va_runV (As := As) (rest := rest) (b := b) S hM cw ⟨(rb_in hP hK hN (.ref b :: As)).1, hrec, (rb_in hP hK hN (.ref b :: As)).2⟩ rfl hn hsize hst (lv_room hW) hdg hf) kk
theorem wd_cut (hP : va_P D vwCl ws H) (isC : List Nat) (hC : isC.map (fun i => ws[i]?) = Wc.map some) : va_P D vwCl Wc H := by
  intro k q hq
  have h1 : (isC.map (fun i => ws[i]?))[k]? = some (some q) := by rw [hC, List.getElem?_map, hq]; rfl
  rw [List.getElem?_map] at h1
  cases hi : isC[k]? with
  | none => rw [hi] at h1; cases h1
  | some i => rw [hi] at h1; exact hP i q (Option.some.inj h1)
/-- a world's cells behind a call that changed some of them -/
theorem wd_back {H1 : Heap} (hP : va_P D vwCl ws H) (hD : va_D A ws) (isC isR : List Nat) (hC : isC.map (fun i => ws[i]?) = Wc.map some) (h1 : isC.map (fun i => W2[i]?) = W1.map some) (hR : ∀ i ∈ isR, W2[i]? = ws[i]?) (hfst : W2.map (fun q => q.1) = ws.map (fun q => q.1)) (hall : ∀ i, i < W2.length → i ∈ isC ∨ i ∈ isR) (hdis : ∀ i ∈ isR, i ∉ isC)
    (hk : ∀ q : Nat, q < H.size → ¬ va_A Wc H.size q → H1[q]? = H[q]?) (hP1 : va_P D vwCl W1 H1) : va_P D vwCl W2 H1 ∧ va_D A W2 := by
  have hD2 : va_D A W2 := by
    have key : ∀ (k : Nat) (q : Nat × va_E), W2[k]? = some q → ∃ q0, ws[k]? = some q0 ∧ q0.1 = q.1 := by
      intro k q hq
      have h2 : (W2.map (fun q => q.1))[k]? = some q.1 := by rw [List.getElem?_map, hq]; rfl
      rw [hfst, List.getElem?_map] at h2
      cases h3 : ws[k]? with
      | none => rw [h3] at h2; cases h2
      | some q0 => rw [h3] at h2; exact ⟨q0, rfl, Option.some.inj h2⟩
    refine ⟨fun i j x y hi hj hxy => ?_, fun k q hk => ?_⟩
    · obtain ⟨x0, a1, a2⟩ := key i x hi
      obtain ⟨y0, b1, b2⟩ := key j y hj
      exact hD.1 i j x0 y0 a1 b1 (a2.trans (hxy.trans b2.symm))
    · obtain ⟨q0, a1, a2⟩ := key k q hk
      rw [← a2]
      exact hD.2 k q0 a1
  refine ⟨fun k q hq => ?_, hD2⟩
  have hlt : k < W2.length := (List.getElem?_eq_some_iff.mp hq).1
  rcases hall k hlt with h | h
  · obtain ⟨j, hj⟩ := List.getElem?_of_mem h
    have h3 : (isC.map (fun i => W2[i]?))[j]? = some (some q) := by rw [List.getElem?_map, hj]; exact congrArg some hq
    rw [h1, List.getElem?_map] at h3
    cases h4 : W1[j]? with
    | none => rw [h4] at h3; cases h3
    | some x =>
      rw [h4] at h3
      have h5 : x = q := Option.some.inj (Option.some.inj h3)
      exact hP1 j q (by rw [h4, h5])
  · have hq0 : ws[k]? = some q := by rw [← hR k h]; exact hq
    refine (hP k q hq0).kept (hk q.1 (hP k q hq0).lt ?_)
    intro z
    rcases z with ⟨j, e0, hj⟩ | hj
    · have h3 : (isC.map (fun i => ws[i]?))[j]? = some (some (q.1, e0)) := by rw [hC, List.getElem?_map, hj]; rfl
      rw [List.getElem?_map] at h3
      cases h4 : isC[j]? with
      | none => rw [h4] at h3; cases h3
      | some i =>
        rw [h4] at h3
        have h5 : ws[i]? = some (q.1, e0) := Option.some.inj h3
        have h6 := hD.1 k i q (q.1, e0) hq0 h5 rfl
        subst h6
        exact hdis k h (List.mem_of_getElem? h4)
    · exact absurd (hP k q hq0).lt (Nat.not_lt.mpr hj)
theorem rv_VN (S : CallFix p m c cc nL s args Ts own) (hM : Rv l D cI cZ cJ y wy fr lo (.ref b :: As) W0) (cw : va_CN R s args own index y host bytes maxL ret wy (rmR fr lo) 0 0 n ∧ (Cond.instanceMethod y).before args s = true ∧ (Cond.selects C y y).before args s = true)
    (hP : va_P D vwCl W0 H) (hK : va_K D vwCl (tys9 cI cZ cJ) s) (hN : NM s) (hrec : ∃ cell : Cell, H[b]? = some cell ∧ cell.vm.isStatics = false ∧ s.vm.findClass C = some cell.cls) (hn : As.length = n) (hsize : ls.size = nL) (hst : st0 = As.reverse ++ .ref b :: rest) (hW : (rest.map fun v => v.category).sum ≤ 8) (hdg : decode cc pc = .ok (.invokevirtual index, 3)) (hf : cells ≤ R.cells ∧ slots ≤ R.slots)
    (kk : W p l e R s m args below meth c H locs cells slots Q (F0 m (pc + 3) ls rest)) : W p l e R s m args below meth c H locs cells slots Q (F0 m pc ls st0) :=
  rs_callv (va_runVN (As := As) (rest := rest) (b := b) S hM cw ⟨(rb_in hP hK hN (.ref b :: As)).1, hrec, (rb_in hP hK hN (.ref b :: As)).2⟩ rfl hn hsize hst (lv_room hW) hdg hf) kk
theorem mi_call {a : Array Value} (hr : va_Run p l e R s m args below meth c H locs cells slots 0 0 (F0 m pc ls st0) rest (va_Qi (fun r (_ : Unit) => r = v) (fun _ t => va_P D vwCl W1 t.heap) (va_A Wc H.size) a) (va_A Wc H.size))
    (hP : va_P D vwCl ws H) (hD : va_D A ws) (hS : va_S A s.heap H locs) (hA : ∀ q : Nat, s.heap.size ≤ q → A q) (isC isR : List Nat) (hC : isC.map (fun i => ws[i]?) = Wc.map some) (h1 : isC.map (fun i => W2[i]?) = W1.map some) (hR : ∀ i ∈ isR, W2[i]? = ws[i]?) (hfst : W2.map (fun q => q.1) = ws.map (fun q => q.1)) (k : Nat) (hlen : W2.length = k) (hall : ∀ i, i < k → i ∈ isC ∨ i ∈ isR) (hdis : ∀ i ∈ isR, i ∉ isC)
    (kk : ∀ (H : Heap) (locs : List Loc), va_P D vwCl W2 H → va_D A W2 → va_S A s.heap H locs → W p l e R s m args below meth c H locs cells slots Q (F0 m (pc + 3) ls (.int v :: rest))) : W p l e R s m args below meth c H locs cells slots Q (F0 m pc ls st0) := by
  have hFc := va_free hD hS hA isC hC
  refine va_calli hr hS (fun q _ h => hFc q h) hFc (fun r u t H1 locs1 ht hvm hw hB hz1 hk1 hS1 => ?_)
  subst hw
  have hB2 : va_P D vwCl W1 t.heap := hB
  rw [ht] at hB2
  obtain ⟨hP2, hD2⟩ := wd_back hP hD isC isR hC h1 hR hfst (by rw [hlen]; exact hall) hdis hk1 hB2
  exact kk H1 locs1 hP2 hD2 hS1
theorem mv_call {a : Array Value} (hr : va_Run p l e R s m args below meth c H locs cells slots 0 0 (F0 m pc ls st0) rest (va_Qv (fun (_ : Unit) => True) (fun _ t => va_P D vwCl W1 t.heap) (va_A Wc H.size) a) (va_A Wc H.size))
    (hP : va_P D vwCl ws H) (hD : va_D A ws) (hS : va_S A s.heap H locs) (hA : ∀ q : Nat, s.heap.size ≤ q → A q) (isC isR : List Nat) (hC : isC.map (fun i => ws[i]?) = Wc.map some) (h1 : isC.map (fun i => W2[i]?) = W1.map some) (hR : ∀ i ∈ isR, W2[i]? = ws[i]?) (hfst : W2.map (fun q => q.1) = ws.map (fun q => q.1)) (k : Nat) (hlen : W2.length = k) (hall : ∀ i, i < k → i ∈ isC ∨ i ∈ isR) (hdis : ∀ i ∈ isR, i ∉ isC)
    (kk : ∀ (H : Heap) (locs : List Loc), va_P D vwCl W2 H → va_D A W2 → va_S A s.heap H locs → W p l e R s m args below meth c H locs cells slots Q (F0 m (pc + 3) ls rest)) : W p l e R s m args below meth c H locs cells slots Q (F0 m pc ls st0) := by
  have hFc := va_free hD hS hA isC hC
  refine va_callv hr hS (fun q _ h => hFc q h) hFc (fun u t H1 locs1 ht hvm hw hB hz1 hk1 hS1 => ?_)
  have hB2 : va_P D vwCl W1 t.heap := hB
  rw [ht] at hB2
  obtain ⟨hP2, hD2⟩ := wd_back hP hD isC isR hC h1 hR hfst (by rw [hlen]; exact hall) hdis hk1 hB2
  exact kk H1 locs1 hP2 hD2 hS1
theorem mi_VN (S : CallFix p m c cc nL s args Ts own) (hM : Mi l D cI cZ cJ y wy fr lo H.size (.ref b :: As) Wc W1 v) (cw : va_CN R s args own index y host bytes maxL ret wy (rmR fr lo) 0 0 n ∧ (Cond.instanceMethod y).before args s = true ∧ (Cond.selects C y y).before args s = true)
    (hP : va_P D vwCl ws H) (hD : va_D A ws) (hK : va_K D vwCl (tys9 cI cZ cJ) s) (hN : NM s) (hS : va_S A s.heap H locs) (hA : ∀ q : Nat, s.heap.size ≤ q → A q) (hrec : ∃ cell : Cell, H[b]? = some cell ∧ cell.vm.isStatics = false ∧ s.vm.findClass C = some cell.cls) (hn : As.length = n) (hsize : ls.size = nL) (hst : st0 = As.reverse ++ .ref b :: rest) (hW : (rest.map fun v => v.category).sum ≤ 8) (hdg : decode cc pc = .ok (.invokevirtual index, 3)) (hf : cells ≤ R.cells ∧ slots ≤ R.slots)
    (isC isR : List Nat) (hnd : va_nd isC = true) (hC : isC.map (fun i => ws[i]?) = Wc.map some) (h1 : isC.map (fun i => W2[i]?) = W1.map some) (hR : ∀ i ∈ isR, W2[i]? = ws[i]?) (hfst : W2.map (fun q => q.1) = ws.map (fun q => q.1)) (k : Nat) (hlen : W2.length = k) (hall : ∀ i, i < k → i ∈ isC ∨ i ∈ isR) (hdis : ∀ i ∈ isR, i ∉ isC)
    (kk : ∀ (H : Heap) (locs : List Loc), va_P D vwCl W2 H → va_D A W2 → va_S A s.heap H locs → W p l e R s m args below meth c H locs cells slots Q (F0 m (pc + 3) ls (.int v :: rest))) : W p l e R s m args below meth c H locs cells slots Q (F0 m pc ls st0) := by
  have hPc : va_P D vwCl Wc H := wd_cut hP isC hC
  have hDc : va_D A Wc := hD.sub isC hnd hC
  exact mi_call (va_runVN (As := As) (rest := rest) (b := b) S hM cw ⟨(mb_in hPc hK hN hDc (.ref b :: As)).1, hrec, (mb_in hPc hK hN hDc (.ref b :: As)).2⟩ rfl hn hsize hst (lv_room hW) hdg hf) hP hD hS hA isC isR hC h1 hR hfst k hlen hall hdis kk
theorem mi_V (S : CallFix p m c cc nL s args Ts own) (hM : Mi l D cI cZ cJ y wy fr lo H.size (.ref b :: As) Wc W1 v) (cw : CallW R s args own C index y bytes maxL ret wy (rmR fr lo) 0 0 n)
    (hP : va_P D vwCl ws H) (hD : va_D A ws) (hK : va_K D vwCl (tys9 cI cZ cJ) s) (hN : NM s) (hS : va_S A s.heap H locs) (hA : ∀ q : Nat, s.heap.size ≤ q → A q) (hrec : ∃ cell : Cell, H[b]? = some cell ∧ cell.vm.isStatics = false ∧ s.vm.findClass C = some cell.cls) (hn : As.length = n) (hsize : ls.size = nL) (hst : st0 = As.reverse ++ .ref b :: rest) (hW : (rest.map fun v => v.category).sum ≤ 8) (hdg : decode cc pc = .ok (.invokevirtual index, 3)) (hf : cells ≤ R.cells ∧ slots ≤ R.slots)
    (isC isR : List Nat) (hnd : va_nd isC = true) (hC : isC.map (fun i => ws[i]?) = Wc.map some) (h1 : isC.map (fun i => W2[i]?) = W1.map some) (hR : ∀ i ∈ isR, W2[i]? = ws[i]?) (hfst : W2.map (fun q => q.1) = ws.map (fun q => q.1)) (k : Nat) (hlen : W2.length = k) (hall : ∀ i, i < k → i ∈ isC ∨ i ∈ isR) (hdis : ∀ i ∈ isR, i ∉ isC)
    (kk : ∀ (H : Heap) (locs : List Loc), va_P D vwCl W2 H → va_D A W2 → va_S A s.heap H locs → W p l e R s m args below meth c H locs cells slots Q (F0 m (pc + 3) ls (.int v :: rest))) : W p l e R s m args below meth c H locs cells slots Q (F0 m pc ls st0) := by
  have hPc : va_P D vwCl Wc H := wd_cut hP isC hC
  have hDc : va_D A Wc := hD.sub isC hnd hC
  exact mi_call (va_runV (As := As) (rest := rest) (b := b) S hM cw ⟨(mb_in hPc hK hN hDc (.ref b :: As)).1, hrec, (mb_in hPc hK hN hDc (.ref b :: As)).2⟩ rfl hn hsize hst (lv_room hW) hdg hf) hP hD hS hA isC isR hC h1 hR hfst k hlen hall hdis kk
theorem mi_SN (S : CallFix p m c cc nL s args Ts own) (hM : Mi l D cI cZ cJ y wy fr lo H.size As Wc W1 v) (cw : va_CN R s args own index y host bytes maxL ret wy (rmR fr lo) 0 0 n ∧ (Cond.static y).before args s = true ∧ True)
    (hP : va_P D vwCl ws H) (hD : va_D A ws) (hK : va_K D vwCl (tys9 cI cZ cJ) s) (hN : NM s) (hS : va_S A s.heap H locs) (hA : ∀ q : Nat, s.heap.size ≤ q → A q)  (hn : As.length = n) (hsize : ls.size = nL) (hst : st0 = As.reverse ++ rest) (hW : (rest.map fun v => v.category).sum ≤ 8) (hdg : decode cc pc = .ok (.invokestatic index, 3)) (hf : cells ≤ R.cells ∧ slots ≤ R.slots)
    (isC isR : List Nat) (hnd : va_nd isC = true) (hC : isC.map (fun i => ws[i]?) = Wc.map some) (h1 : isC.map (fun i => W2[i]?) = W1.map some) (hR : ∀ i ∈ isR, W2[i]? = ws[i]?) (hfst : W2.map (fun q => q.1) = ws.map (fun q => q.1)) (k : Nat) (hlen : W2.length = k) (hall : ∀ i, i < k → i ∈ isC ∨ i ∈ isR) (hdis : ∀ i ∈ isR, i ∉ isC)
    (kk : ∀ (H : Heap) (locs : List Loc), va_P D vwCl W2 H → va_D A W2 → va_S A s.heap H locs → W p l e R s m args below meth c H locs cells slots Q (F0 m (pc + 3) ls (.int v :: rest))) : W p l e R s m args below meth c H locs cells slots Q (F0 m pc ls st0) := by
  have hPc : va_P D vwCl Wc H := wd_cut hP isC hC
  have hDc : va_D A Wc := hD.sub isC hnd hC
  exact mi_call (va_runSN (As := As) (rest := rest) S hM cw (mb_in hPc hK hN hDc As) rfl hn hsize hst (lv_room hW) hdg hf) hP hD hS hA isC isR hC h1 hR hfst k hlen hall hdis kk
theorem mi_S (S : CallFix p m c cc nL s args Ts own) (hM : Mi l D cI cZ cJ y wy fr lo H.size As Wc W1 v) (cw : CallB R s args own index y bytes maxL ret wy (rmR fr lo) 0 0 n ∧ (Cond.static y).before args s = true)
    (hP : va_P D vwCl ws H) (hD : va_D A ws) (hK : va_K D vwCl (tys9 cI cZ cJ) s) (hN : NM s) (hS : va_S A s.heap H locs) (hA : ∀ q : Nat, s.heap.size ≤ q → A q)  (hn : As.length = n) (hsize : ls.size = nL) (hst : st0 = As.reverse ++ rest) (hW : (rest.map fun v => v.category).sum ≤ 8) (hdg : decode cc pc = .ok (.invokestatic index, 3)) (hf : cells ≤ R.cells ∧ slots ≤ R.slots)
    (isC isR : List Nat) (hnd : va_nd isC = true) (hC : isC.map (fun i => ws[i]?) = Wc.map some) (h1 : isC.map (fun i => W2[i]?) = W1.map some) (hR : ∀ i ∈ isR, W2[i]? = ws[i]?) (hfst : W2.map (fun q => q.1) = ws.map (fun q => q.1)) (k : Nat) (hlen : W2.length = k) (hall : ∀ i, i < k → i ∈ isC ∨ i ∈ isR) (hdis : ∀ i ∈ isR, i ∉ isC)
    (kk : ∀ (H : Heap) (locs : List Loc), va_P D vwCl W2 H → va_D A W2 → va_S A s.heap H locs → W p l e R s m args below meth c H locs cells slots Q (F0 m (pc + 3) ls (.int v :: rest))) : W p l e R s m args below meth c H locs cells slots Q (F0 m pc ls st0) := by
  have hPc : va_P D vwCl Wc H := wd_cut hP isC hC
  have hDc : va_D A Wc := hD.sub isC hnd hC
  exact mi_call (va_runS (As := As) (rest := rest) S hM cw (mb_in hPc hK hN hDc As) rfl hn hsize hst (lv_room hW) hdg hf) hP hD hS hA isC isR hC h1 hR hfst k hlen hall hdis kk
theorem mv_VN (S : CallFix p m c cc nL s args Ts own) (hM : Mv l D cI cZ cJ y wy fr lo H.size (.ref b :: As) Wc W1) (cw : va_CN R s args own index y host bytes maxL ret wy (rmR fr lo) 0 0 n ∧ (Cond.instanceMethod y).before args s = true ∧ (Cond.selects C y y).before args s = true)
    (hP : va_P D vwCl ws H) (hD : va_D A ws) (hK : va_K D vwCl (tys9 cI cZ cJ) s) (hN : NM s) (hS : va_S A s.heap H locs) (hA : ∀ q : Nat, s.heap.size ≤ q → A q) (hrec : ∃ cell : Cell, H[b]? = some cell ∧ cell.vm.isStatics = false ∧ s.vm.findClass C = some cell.cls) (hn : As.length = n) (hsize : ls.size = nL) (hst : st0 = As.reverse ++ .ref b :: rest) (hW : (rest.map fun v => v.category).sum ≤ 8) (hdg : decode cc pc = .ok (.invokevirtual index, 3)) (hf : cells ≤ R.cells ∧ slots ≤ R.slots)
    (isC isR : List Nat) (hnd : va_nd isC = true) (hC : isC.map (fun i => ws[i]?) = Wc.map some) (h1 : isC.map (fun i => W2[i]?) = W1.map some) (hR : ∀ i ∈ isR, W2[i]? = ws[i]?) (hfst : W2.map (fun q => q.1) = ws.map (fun q => q.1)) (k : Nat) (hlen : W2.length = k) (hall : ∀ i, i < k → i ∈ isC ∨ i ∈ isR) (hdis : ∀ i ∈ isR, i ∉ isC)
    (kk : ∀ (H : Heap) (locs : List Loc), va_P D vwCl W2 H → va_D A W2 → va_S A s.heap H locs → W p l e R s m args below meth c H locs cells slots Q (F0 m (pc + 3) ls rest)) : W p l e R s m args below meth c H locs cells slots Q (F0 m pc ls st0) := by
  have hPc : va_P D vwCl Wc H := wd_cut hP isC hC
  have hDc : va_D A Wc := hD.sub isC hnd hC
  exact mv_call (va_runVN (As := As) (rest := rest) (b := b) S hM cw ⟨(mb_in hPc hK hN hDc (.ref b :: As)).1, hrec, (mb_in hPc hK hN hDc (.ref b :: As)).2⟩ rfl hn hsize hst (lv_room hW) hdg hf) hP hD hS hA isC isR hC h1 hR hfst k hlen hall hdis kk
theorem mv_V (S : CallFix p m c cc nL s args Ts own) (hM : Mv l D cI cZ cJ y wy fr lo H.size (.ref b :: As) Wc W1) (cw : CallW R s args own C index y bytes maxL ret wy (rmR fr lo) 0 0 n)
    (hP : va_P D vwCl ws H) (hD : va_D A ws) (hK : va_K D vwCl (tys9 cI cZ cJ) s) (hN : NM s) (hS : va_S A s.heap H locs) (hA : ∀ q : Nat, s.heap.size ≤ q → A q) (hrec : ∃ cell : Cell, H[b]? = some cell ∧ cell.vm.isStatics = false ∧ s.vm.findClass C = some cell.cls) (hn : As.length = n) (hsize : ls.size = nL) (hst : st0 = As.reverse ++ .ref b :: rest) (hW : (rest.map fun v => v.category).sum ≤ 8) (hdg : decode cc pc = .ok (.invokevirtual index, 3)) (hf : cells ≤ R.cells ∧ slots ≤ R.slots)
    (isC isR : List Nat) (hnd : va_nd isC = true) (hC : isC.map (fun i => ws[i]?) = Wc.map some) (h1 : isC.map (fun i => W2[i]?) = W1.map some) (hR : ∀ i ∈ isR, W2[i]? = ws[i]?) (hfst : W2.map (fun q => q.1) = ws.map (fun q => q.1)) (k : Nat) (hlen : W2.length = k) (hall : ∀ i, i < k → i ∈ isC ∨ i ∈ isR) (hdis : ∀ i ∈ isR, i ∉ isC)
    (kk : ∀ (H : Heap) (locs : List Loc), va_P D vwCl W2 H → va_D A W2 → va_S A s.heap H locs → W p l e R s m args below meth c H locs cells slots Q (F0 m (pc + 3) ls rest)) : W p l e R s m args below meth c H locs cells slots Q (F0 m pc ls st0) := by
  have hPc : va_P D vwCl Wc H := wd_cut hP isC hC
  have hDc : va_D A Wc := hD.sub isC hnd hC
  exact mv_call (va_runV (As := As) (rest := rest) (b := b) S hM cw ⟨(mb_in hPc hK hN hDc (.ref b :: As)).1, hrec, (mb_in hPc hK hN hDc (.ref b :: As)).2⟩ rfl hn hsize hst (lv_room hW) hdg hf) hP hD hS hA isC isR hC h1 hR hfst k hlen hall hdis kk
theorem mv_SN (S : CallFix p m c cc nL s args Ts own) (hM : Mv l D cI cZ cJ y wy fr lo H.size As Wc W1) (cw : va_CN R s args own index y host bytes maxL ret wy (rmR fr lo) 0 0 n ∧ (Cond.static y).before args s = true ∧ True)
    (hP : va_P D vwCl ws H) (hD : va_D A ws) (hK : va_K D vwCl (tys9 cI cZ cJ) s) (hN : NM s) (hS : va_S A s.heap H locs) (hA : ∀ q : Nat, s.heap.size ≤ q → A q)  (hn : As.length = n) (hsize : ls.size = nL) (hst : st0 = As.reverse ++ rest) (hW : (rest.map fun v => v.category).sum ≤ 8) (hdg : decode cc pc = .ok (.invokestatic index, 3)) (hf : cells ≤ R.cells ∧ slots ≤ R.slots)
    (isC isR : List Nat) (hnd : va_nd isC = true) (hC : isC.map (fun i => ws[i]?) = Wc.map some) (h1 : isC.map (fun i => W2[i]?) = W1.map some) (hR : ∀ i ∈ isR, W2[i]? = ws[i]?) (hfst : W2.map (fun q => q.1) = ws.map (fun q => q.1)) (k : Nat) (hlen : W2.length = k) (hall : ∀ i, i < k → i ∈ isC ∨ i ∈ isR) (hdis : ∀ i ∈ isR, i ∉ isC)
    (kk : ∀ (H : Heap) (locs : List Loc), va_P D vwCl W2 H → va_D A W2 → va_S A s.heap H locs → W p l e R s m args below meth c H locs cells slots Q (F0 m (pc + 3) ls rest)) : W p l e R s m args below meth c H locs cells slots Q (F0 m pc ls st0) := by
  have hPc : va_P D vwCl Wc H := wd_cut hP isC hC
  have hDc : va_D A Wc := hD.sub isC hnd hC
  exact mv_call (va_runSN (As := As) (rest := rest) S hM cw (mb_in hPc hK hN hDc As) rfl hn hsize hst (lv_room hW) hdg hf) hP hD hS hA isC isR hC h1 hR hfst k hlen hall hdis kk
theorem mv_S (S : CallFix p m c cc nL s args Ts own) (hM : Mv l D cI cZ cJ y wy fr lo H.size As Wc W1) (cw : CallB R s args own index y bytes maxL ret wy (rmR fr lo) 0 0 n ∧ (Cond.static y).before args s = true)
    (hP : va_P D vwCl ws H) (hD : va_D A ws) (hK : va_K D vwCl (tys9 cI cZ cJ) s) (hN : NM s) (hS : va_S A s.heap H locs) (hA : ∀ q : Nat, s.heap.size ≤ q → A q)  (hn : As.length = n) (hsize : ls.size = nL) (hst : st0 = As.reverse ++ rest) (hW : (rest.map fun v => v.category).sum ≤ 8) (hdg : decode cc pc = .ok (.invokestatic index, 3)) (hf : cells ≤ R.cells ∧ slots ≤ R.slots)
    (isC isR : List Nat) (hnd : va_nd isC = true) (hC : isC.map (fun i => ws[i]?) = Wc.map some) (h1 : isC.map (fun i => W2[i]?) = W1.map some) (hR : ∀ i ∈ isR, W2[i]? = ws[i]?) (hfst : W2.map (fun q => q.1) = ws.map (fun q => q.1)) (k : Nat) (hlen : W2.length = k) (hall : ∀ i, i < k → i ∈ isC ∨ i ∈ isR) (hdis : ∀ i ∈ isR, i ∉ isC)
    (kk : ∀ (H : Heap) (locs : List Loc), va_P D vwCl W2 H → va_D A W2 → va_S A s.heap H locs → W p l e R s m args below meth c H locs cells slots Q (F0 m (pc + 3) ls rest)) : W p l e R s m args below meth c H locs cells slots Q (F0 m pc ls st0) := by
  have hPc : va_P D vwCl Wc H := wd_cut hP isC hC
  have hDc : va_D A Wc := hD.sub isC hnd hC
  exact mv_call (va_runS (As := As) (rest := rest) S hM cw (mb_in hPc hK hN hDc As) rfl hn hsize hst (lv_room hW) hdg hf) hP hD hS hA isC isR hC h1 hR hfst k hlen hall hdis kk
end BaseCalls

abbrev cT (hT hB hV : Nat) (a : Nat → Int32) : Nat × va_E := (hT, .inr (1, [.ref hB, .ref hV, .int (a 0), .int (a 1), .int (a 2), .int (a 3), .int (a 4), .int (a 5), .int (a 6), .int (a 7), .int (a 8), .int (a 9), .int (a 10), .int (a 11)]))
abbrev cB (hB hG : Nat) (tr : Int32) : Nat × va_E := (hB, .inr (0, [.ref hG, .int tr]))
abbrev cM (hM hO hW hY : Nat) (th : Int32) (a : Nat → Int32) : Nat × va_E := (hM, .inr (2, [.int th, .int (a 0), .int (a 2), .int (a 3), .int (a 4), .int (a 5), .ref hO, .int (a 6), .int (a 1), .int (a 7), .ref hW, .int (a 8), .int (a 11), .int (a 9), .int (a 10), .ref hY]))
abbrev cA (c : ClassId) (h n : Nat) (f : Nat → Int32) : Nat × va_E := (h, .inl (c, n, .inl f))
abbrev cL (c : ClassId) (h n : Nat) (f : Nat → Int64) : Nat × va_E := (h, .inl (c, n, .inr (.inl f)))
section BaseArr
variable {p : Program} {l : Launch} {e : Env} {R : Room} {s : State} {m : MethodId} {args : Array Value} {below : List Frame} {meth : Method} {c : Code} {cc : ByteArray} {H H0 : Heap} {locs : List Loc} {cells slots : Nat} {Q : State → Prop} {pc : Nat} {ls : Array Slot} {v : Int32} {D : va_G} {ws : va_W} {tys : List (ClassId × FieldType)} {A : Nat → Prop} {a j n : Nat} {rest : List Value}
theorem q_iald (hx : p.tables.exec = Jvm.exec) (hb : c.code = cc) (hK : va_K D vwCl tys s) (hP : va_P D vwCl ws H) (q0 t0 : Nat) {cA : ClassId} {f : Nat → Int32} (ha : ws[q0]? = some (a, .inl (cA, n, .inl f))) (ht : tys[t0]? = some (cA, .int)) (hj : j < n) (hn : n ≤ 65536) (hv : f j = v) (hdg : decode cc pc = .ok (.iaload, 1))
    (kk : W p l e R s m args below meth c H locs cells slots Q (F0 m (pc + 1) ls (.int v :: rest))) : W p l e R s m args below meth c H locs cells slots Q (F0 m pc ls (.int (nI j) :: .ref a :: rest)) := by
  have h2 : j < 2 ^ 31 := by omega
  refine va_iald hx hb hK hP q0 t0 ha ht (vp_in_nI hj (by omega)) hdg ?_
  rw [nI_clamp h2, hv]
  exact kk
theorem q_zald (hx : p.tables.exec = Jvm.exec) (hb : c.code = cc) (hK : va_K D vwCl tys s) (hP : va_P D vwCl ws H) (q0 t0 : Nat) {cA : ClassId} {f : Nat → Int32} (ha : ws[q0]? = some (a, .inl (cA, n, .inl f))) (ht : tys[t0]? = some (cA, .boolean)) (hj : j < n) (hn : n ≤ 65536) (hv : f j = v) (hdg : decode cc pc = .ok (.baload, 1))
    (kk : W p l e R s m args below meth c H locs cells slots Q (F0 m (pc + 1) ls (.int v :: rest))) : W p l e R s m args below meth c H locs cells slots Q (F0 m pc ls (.int (nI j) :: .ref a :: rest)) := by
  have h2 : j < 2 ^ 31 := by omega
  refine va_zald hx hb hK hP q0 t0 ha ht (vp_in_nI hj (by omega)) hdg ?_
  rw [nI_clamp h2, hv]
  exact kk
theorem q_iast (hx : p.tables.exec = Jvm.exec) (hb : c.code = cc) (hK : va_K D vwCl tys s) (hP : va_P D vwCl ws H) (hD : va_D A ws) (hS : va_S A H0 H locs) (q0 t0 : Nat) {cA : ClassId} {f : Nat → Int32} (ha : ws[q0]? = some (a, .inl (cA, n, .inl f))) (ht : tys[t0]? = some (cA, .int)) (hj : j < n) (hn : n ≤ 65536) (hdg : decode cc pc = .ok (.iastore, 1))
    (kk : ∀ (H1 : Heap) (locs1 : List Loc), va_P D vwCl (ws.set q0 (a, .inl (cA, n, .inl (upd f j v)))) H1 → va_D A (ws.set q0 (a, .inl (cA, n, .inl (upd f j v)))) → va_S A H0 H1 locs1 → W p l e R s m args below meth c H1 locs1 cells slots Q (F0 m (pc + 1) ls rest)) : W p l e R s m args below meth c H locs cells slots Q (F0 m pc ls (.int v :: .int (nI j) :: .ref a :: rest)) := by
  have h2 : j < 2 ^ 31 := by omega
  refine va_iast hx hb hK hP hD hS q0 t0 ha ht (vp_in_nI hj (by omega)) hdg ?_
  rw [nI_clamp h2]
  exact kk
theorem q_zast (hx : p.tables.exec = Jvm.exec) (hb : c.code = cc) (hK : va_K D vwCl tys s) (hP : va_P D vwCl ws H) (hD : va_D A ws) (hS : va_S A H0 H locs) (q0 t0 : Nat) {cA : ClassId} {f : Nat → Int32} (ha : ws[q0]? = some (a, .inl (cA, n, .inl f))) (ht : tys[t0]? = some (cA, .boolean)) (hj : j < n) (hn : n ≤ 65536) (hdg : decode cc pc = .ok (.bastore, 1))
    (kk : ∀ (H1 : Heap) (locs1 : List Loc), va_P D vwCl (ws.set q0 (a, .inl (cA, n, .inl (upd f j (vp_nar .boolean v))))) H1 → va_D A (ws.set q0 (a, .inl (cA, n, .inl (upd f j (vp_nar .boolean v))))) → va_S A H0 H1 locs1 → W p l e R s m args below meth c H1 locs1 cells slots Q (F0 m (pc + 1) ls rest)) : W p l e R s m args below meth c H locs cells slots Q (F0 m pc ls (.int v :: .int (nI j) :: .ref a :: rest)) := by
  have h2 : j < 2 ^ 31 := by omega
  refine va_zast hx hb hK hP hD hS q0 t0 ha ht (vp_in_nI hj (by omega)) hdg ?_
  rw [nI_clamp h2]
  exact kk
/-- a loop that reads: lv i says what the locals hold at its head with i steps done -/
theorem loop_R {nL h : Nat} (N : Nat) (lv : Nat → List (Nat × Value)) (I : Nat → Prop)
    (step : ∀ i, i ≤ N → I i → (i < N → I (i + 1) → ∀ ls : Array Slot, lv_has ls nL (lv (i + 1)) → W p l e R s m args below meth c H locs cells slots Q (F0 m h ls [])) → ∀ ls : Array Slot, lv_has ls nL (lv i) → W p l e R s m args below meth c H locs cells slots Q (F0 m h ls [])) :
    ∀ i, i ≤ N → I i → ∀ ls : Array Slot, lv_has ls nL (lv i) → W p l e R s m args below meth c H locs cells slots Q (F0 m h ls []) := by
  have key : ∀ k i, i + k = N → I i → ∀ ls : Array Slot, lv_has ls nL (lv i) → W p l e R s m args below meth c H locs cells slots Q (F0 m h ls []) := by
    intro k
    induction k with
    | zero => intro i hi hI; exact step i (by omega) hI (fun h9 _ => absurd h9 (by omega))
    | succ k ih => intro i hi hI; exact step i (by omega) hI (fun _ hI1 => ih (i + 1) (by omega) hI1)
  intro i hi hI
  exact key (N - i) i (by omega) hI
/-- a loop that changes the world: wd i is the world at its head with i steps done -/
theorem loop_M {nL h : Nat} (N : Nat) (lv : Nat → List (Nat × Value)) (wd : Nat → va_W) (I : Nat → Prop)
    (step : ∀ i, i ≤ N → I i → (i < N → I (i + 1) → ∀ (H : Heap) (locs : List Loc) (ls : Array Slot), va_P D vwCl (wd (i + 1)) H → va_D A (wd (i + 1)) → va_S A s.heap H locs → lv_has ls nL (lv (i + 1)) → W p l e R s m args below meth c H locs cells slots Q (F0 m h ls [])) → ∀ (H : Heap) (locs : List Loc) (ls : Array Slot), va_P D vwCl (wd i) H → va_D A (wd i) → va_S A s.heap H locs → lv_has ls nL (lv i) → W p l e R s m args below meth c H locs cells slots Q (F0 m h ls [])) :
    ∀ i, i ≤ N → I i → ∀ (H : Heap) (locs : List Loc) (ls : Array Slot), va_P D vwCl (wd i) H → va_D A (wd i) → va_S A s.heap H locs → lv_has ls nL (lv i) → W p l e R s m args below meth c H locs cells slots Q (F0 m h ls []) := by
  have key : ∀ k i, i + k = N → I i → ∀ (H : Heap) (locs : List Loc) (ls : Array Slot), va_P D vwCl (wd i) H → va_D A (wd i) → va_S A s.heap H locs → lv_has ls nL (lv i) → W p l e R s m args below meth c H locs cells slots Q (F0 m h ls []) := by
    intro k
    induction k with
    | zero => intro i hi hI; exact step i (by omega) hI (fun h9 _ => absurd h9 (by omega))
    | succ k ih => intro i hi hI; exact step i (by omega) hI (fun _ hI1 => ih (i + 1) (by omega) hI1)
  intro i hi hI
  exact key (N - i) i (by omega) hI
end BaseArr
end
section
/-! the reference's functions, as its bytecode has them: a is its state (0 phase, 1 day, 2 players, 3 witches, 4 seer, 5 guard, 6 alive, 7 looked, 8 shielded, 9 attacked, 10 watched, 11 shieldedBefore), o its worlds, v its votes -/
theorem geN {i N : Nat} (hi : i ≤ N) (hN : N ≤ 65536) {k : Int32} (hk : k = nI N) (c : k ≤ nI i) : i = N := by
  rw [hk] at c
  have := (nI_leI (by omega) (by omega)).mp c
  omega
theorem ltN {i N : Nat} (hi : i ≤ N) (hN : N ≤ 65536) {k : Int32} (hk : k = nI N) (c : ¬ k ≤ nI i) : i < N := by
  rcases Nat.lt_or_ge i N with h | h
  · exact h
  · exact absurd (by rw [hk]; exact nI_le h (by omega)) c
def xIn (v lo hi : Int32) : Bool := !decide (v < lo) && !decide (hi < v)
def xHas (st q : Int32) : Bool := decide ((st >>> (q &&& 31)) &&& 1 = 1)
def xBits (st : Int32) : Nat → Int32
  | 0 => 0
  | n + 1 => xBits st n + ((st >>> (nI n &&& 31)) &&& 1)
def xPl (a : Nat → Int32) (q : Int32) : Bool := xIn q 0 (a 2 - 1)
def xVw (a : Nat → Int32) (q : Int32) : Bool := decide (q = -1) || xPl a q
def xAll (pl : Int32) : Int32 := ((1 : Int32) <<< (pl &&& 31)) - 1
def xWorld (pl ct st se gu : Int32) : Bool := (xIn st 0 (((1 : Int32) <<< (pl &&& 31)) - 1) && decide (xBits st 8 = ct) && xIn se 0 (pl - 1) && xIn gu 0 (pl - 1)) && !decide (se = gu) && !xHas st se && !xHas st gu
def xRole (wd q : Int32) : Int32 := if xHas (wd / 64) q = true then 1 else if wd / 8 - wd / 8 / 8 * 8 = q then 2 else if wd - wd / 8 * 8 = q then 3 else 0
def xTr (a : Nat → Int32) : Int32 := 64 * a 3 + 8 * a 4 + a 5
def xCnt (o : Nat → Bool) : Nat → Int32
  | 0 => 0
  | n + 1 => xCnt o n + bI (o n)
def xFor (a : Nat → Int32) (o : Nat → Bool) (q : Int32) (n : Nat) : Bool :=
  if o n = false then false else if q = -1 then o n else
    decide (xRole (nI n) q = xRole (xTr a) q) && (!decide (xRole (xTr a) q = 1) || decide (nI n / 64 = a 3)) && (!decide (xRole (xTr a) q = 2) || decide ((nI n / 64) &&& a 7 = a 3 &&& a 7))
def xTrue (wd k q : Int32) : Bool := if k = 0 then decide (xRole wd q = 1) else if k = 1 then !decide (xRole wd q = 1) else if k = 2 then decide (xRole wd q = 2) else decide (xRole wd q = 3)
def xMay (a : Nat → Int32) (q : Int32) (b : Bool) : Bool := decide (a 0 = 1) && xHas (a 6) q && (b || xHas (a 3) q)
/-- the first i places of a row made anew -/
def oUp (nw o : Nat → Bool) (i : Nat) : Nat → Bool := fun n => if n < i then nw n else o n
theorem oUp_0 (nw o : Nat → Bool) : oUp nw o 0 = o := by
  funext n
  simp [oUp]
theorem oUp_at (nw o : Nat → Bool) (i : Nat) : oUp nw o i i = o i := if_neg (Nat.lt_irrefl i)
theorem oUp_step {nw o : Nat → Bool} {i : Nat} {x : Int32} (hx : x = bI (nw i)) : (fun w => bI (oUp nw o (i + 1) w)) = upd (fun w => bI (oUp nw o i w)) i (vp_nar .boolean x) := by
  funext w
  rw [hx, bI_vnar]
  by_cases h : w = i
  · subst h
    simp [oUp, upd]
  · have h2 : (w < i + 1) = (w < i) := propext (by omega)
    simp [oUp, upd, h, h2]
def iUp (nw f : Nat → Int32) (i : Nat) : Nat → Int32 := fun n => if n < i then nw n else f n
theorem iUp_0 (nw f : Nat → Int32) : iUp nw f 0 = f := by
  funext n
  simp [iUp]
theorem iUp_step {nw f : Nat → Int32} {i : Nat} {x : Int32} (hx : x = nw i) : iUp nw f (i + 1) = upd (iUp nw f i) i x := by
  funext w
  rw [hx]
  by_cases h : w = i
  · subst h
    simp [iUp, upd]
  · have h2 : (w < i + 1) = (w < i) := propext (by omega)
    simp [iUp, upd, h, h2]
def xCt (wi : Int32) : Int32 := if 0 ≤ wi then xBits wi 8 else 0
def xGood (pl wi se gu : Int32) : Bool := xIn pl 4 8 && !decide (xCt wi ≤ 0) && !decide (pl ≤ 2 * xCt wi) && xWorld pl (xCt wi) wi se gu
def nW (pl ct : Int32) (n : Nat) : Bool := xWorld pl ct (nI n / 64) (nI n / 8 - nI n / 8 / 8 * 8) (nI n - nI n / 8 * 8)
def vM : Nat → Int32 := fun _ => -1
def aF (a : Nat → Int32) : Nat → Int32 := upd (upd (upd a 8 (-1)) 9 (-1)) 10 (-1)
def aSt (a : Nat → Int32) (pl wi se gu : Int32) : Nat → Int32 := aF (upd (upd (upd (upd (upd (upd (upd (upd (upd a 2 pl) 3 wi) 4 se) 5 gu) 6 (((1 : Int32) <<< (pl &&& 31)) - 1)) 0 1) 1 1) 7 0) 11 (-1))
def kCl (a : Nat → Int32) (q k r : Int32) : Int32 := if a 0 = 0 then 1 else if xPl a q = false then 2 else if xPl a r = false then 2 else if xIn k 0 3 = false then 3 else if xMay a q (xTrue (xTr a) k r) = true then 0 else 4
def nCl (o : Nat → Bool) (q k r : Int32) (n : Nat) : Bool := o n && (xHas (nI n / 64) q || xTrue (nI n) k r)
def kAm (a : Nat → Int32) (q st : Int32) : Int32 := if a 0 = 0 then 1 else if xPl a q = false then 2 else if xIn st 0 (((1 : Int32) <<< (a 2 &&& 31)) - 1) = false then 3 else if xMay a q (!decide (a 3 &&& st = 0)) = true then 0 else 4
def nAm (o : Nat → Bool) (q st : Int32) (n : Nat) : Bool := o n && (xHas (nI n / 64) q || !decide ((nI n / 64) &&& st = 0))
def xMv (v : Nat → Int32) (q : Int32) : Nat → Int32
  | 0 => 0
  | n + 1 => xMv v q n + bI (decide (v n = q))
def kVo (a : Nat → Int32) (q r : Int32) : Int32 := if ¬ a 0 = 1 then 1 else if xPl a q = false then 2 else if xPl a r = false then 2 else if xHas (a 6) q = false then 3 else if xHas (a 6) r = false then 3 else 0
def nDi (a : Nat → Int32) (o : Nat → Bool) (q : Int32) (n : Nat) : Bool := o n && decide (xRole (nI n) q = xRole (xTr a) q)
def aAl (a : Nat → Int32) (q : Int32) : Int32 := a 6 &&& (((1 : Int32) <<< (q &&& 31)) ^^^ (-1))
def aDi (a : Nat → Int32) (q : Int32) : Nat → Int32 := upd (upd a 6 (aAl a q)) 0 (if xBits (aAl a q &&& a 3) 8 = 0 then 3 else if 2 * xBits (aAl a q &&& a 3) 8 < xBits (aAl a q) 8 then a 0 else 4)
def xBM (v : Nat → Int32) : Nat → Int32 × Int32
  | 0 => (-1, 0)
  | n + 1 => (if xMv v (nI n) 8 ≤ (xBM v n).2 then (if xMv v (nI n) 8 = (xBM v n).2 then -1 else (xBM v n).1) else nI n, if xMv v (nI n) 8 ≤ (xBM v n).2 then (xBM v n).2 else xMv v (nI n) 8)
def aCv (a : Nat → Int32) (b : Int32) : Nat → Int32 := if b = -1 then upd (aF a) 0 2 else upd (aDi (aF a) b) 0 (if aDi (aF a) b 0 = 1 then 2 else aDi (aF a) b 0)
def oDi (a : Nat → Int32) (o : Nat → Bool) (b : Int32) : Nat → Bool := if b = -1 then o else oUp (nDi a o b) o 16384
def kPr (a : Nat → Int32) (q : Int32) : Int32 := if ¬ a 0 = 2 then 1 else if xHas (a 6) (a 5) = false then 1 else if xPl a q = false then 2 else if xHas (a 6) q = false then 3 else if q = a 11 then 3 else 0
def kAt (a : Nat → Int32) (q : Int32) : Int32 := if ¬ a 0 = 2 then 1 else if xPl a q = false then 2 else if xHas (a 6) q = false then 3 else if xHas (a 3) q = true then 3 else 0
def kLo (a : Nat → Int32) (q : Int32) : Int32 := if ¬ a 0 = 2 then 1 else if xHas (a 6) (a 4) = false then 1 else if xPl a q = false then 2 else if xHas (a 6) q = false then 3 else if q = a 4 then 3 else 0
def xDead (a : Nat → Int32) : Int32 := if a 9 = a 8 then -1 else a 9
def aD1 (a : Nat → Int32) : Nat → Int32 := if xDead a = -1 then a else aDi a (xDead a)
def aD2 (a : Nat → Int32) : Nat → Int32 := if aD1 a 0 = 2 then upd (upd (upd (aD1 a) 7 (aD1 a 7 ||| (if xHas (aD1 a 6) (aD1 a 4) = true then (if aD1 a 10 = -1 then 0 else ((1 : Int32) <<< (aD1 a 10 &&& 31))) else 0))) 0 1) 1 (aD1 a 1 + 1) else aD1 a
def aEn (a : Nat → Int32) : Nat → Int32 := aF (upd (aD2 a) 11 (aD2 a 8))
def kGm (a : Nat → Int32) : Int32 := if a 0 = 0 then 1 else 0
def xGm (a : Nat → Int32) : Bool := !decide (a 0 = 0)
def kAs (a : Nat → Int32) (q : Int32) : Int32 := if a 0 = 0 then 1 else if xVw a q = true then 0 else 2
def kVf (a : Nat → Int32) (q : Int32) : Int32 := if a 0 = 0 then 1 else if xPl a q = true then 0 else 2
def kWw (a : Nat → Int32) (q r k : Int32) : Int32 := if a 0 = 0 then 1 else if xVw a q = false then 2 else if xPl a r = false then 2 else if xIn k 0 3 = true then 0 else 3
def kPo (a : Nat → Int32) (q r t : Int32) : Int32 := if a 0 = 0 then 1 else if xVw a q = false then 2 else if xPl a r = false then 2 else if xPl a t = true then 0 else 2
def xWt (a : Nat → Int32) (o : Nat → Bool) (q r k : Int32) (n : Nat) : Bool := o n && decide (xRole (nI n) r = k) && xFor a o q n
def xSm (a : Nat → Int32) (o : Nat → Bool) (q : Int32) (b : Bool) : Nat → Int32
  | 0 => 0
  | n + 1 => if xFor a o q n = true then xSm a o q b n ||| (if b = true then nI n / 64 else (nI n / 64) ^^^ (-1)) else xSm a o q b n
def xAny (a : Nat → Int32) (o : Nat → Bool) (q : Int32) (t : Nat) : Nat → Bool
  | 0 => false
  | n + 1 => xAny a o q t n || xFor a o q (64 * t + n)
def xWs (a : Nat → Int32) (o : Nat → Bool) (q : Int32) : Nat → Int32
  | 0 => 0
  | n + 1 => xWs a o q n + bI (xAny a o q n 64)
def xNw (a : Nat → Int32) (o : Nat → Bool) (q : Int32) (n : Nat) : Int32 := xCnt (xWt a o q (nI n) 1) 16384
def xSus (a : Nat → Int32) (f : Nat → Int32) (q : Int32) : Nat → Int32
  | 0 => -1
  | n + 1 => if xHas (a 6) (nI n) = false then xSus a f q n else if nI n = q then xSus a f q n else if xSus a f q n = -1 then nI n else if f n ≤ f (xSus a f q n).toNatClampNeg then xSus a f q n else nI n
theorem xSus_in (a : Nat → Int32) (f : Nat → Int32) (q : Int32) : ∀ n, ¬ xSus a f q n = -1 → ∃ j, j < n ∧ xSus a f q n = nI j := by
  intro n
  induction n with
  | zero => intro h; exact absurd rfl h
  | succ n ih =>
    intro h
    have up : (¬ xSus a f q n = -1 → ∃ j, j < n + 1 ∧ xSus a f q n = nI j) := fun h2 => by
      obtain ⟨j, h3, h4⟩ := ih h2
      exact ⟨j, by omega, h4⟩
    unfold xSus at h ⊢
    split
    · rename_i h1; rw [if_pos h1] at h; exact up h
    · rename_i h1
      rw [if_neg h1] at h
      split
      · rename_i h2; rw [if_pos h2] at h; exact up h
      · rename_i h2
        rw [if_neg h2] at h
        split
        · exact ⟨n, by omega, rfl⟩
        · rename_i h3
          split
          · exact up h3
          · exact ⟨n, by omega, rfl⟩
def xBl (a : Nat → Int32) (f : Nat → Int32) (al : Int32) : Nat → Int32 × Int32
  | 0 => (-1, 0)
  | n + 1 =>
    if xHas (a 6) (nI n) = false then xBl a f al n else if nI n = a 4 then xBl a f al n else
      if (xBl a f al n).1 = -1 then (nI n, if f n ≤ al - f n then al - f n else f n) else if (xBl a f al n).2 ≤ (if f n ≤ al - f n then al - f n else f n) then xBl a f al n else (nI n, if f n ≤ al - f n then al - f n else f n)
theorem wsE (i : Nat) : nI (64 * i + 0) = 64 * nI i := by
  rw [Nat.add_zero]
  exact (pk_mul 64 i).symm
theorem wsB (i : Nat) : 64 * nI i + 64 = nI (64 * i + 64) := by
  rw [show (64 : Int32) = nI 64 from rfl, pk_mul, nI_add]
theorem wsG {i j : Nat} (hi : i < 256) (hj : j ≤ 64) (c : 64 * nI i + 64 ≤ nI (64 * i + j)) : 64 = j := by
  rw [wsB] at c
  have := (nI_leI (by omega) (by omega)).mp c
  omega
theorem wsL {i j : Nat} (hi : i < 256) (hj : j ≤ 64) (c : ¬ 64 * nI i + 64 ≤ nI (64 * i + j)) : j < 64 := by
  rcases Nat.lt_or_ge j 64 with h | h
  · exact h
  · exact absurd (by rw [wsB]; exact nI_le (by omega) (by omega)) c
theorem poE (t r u : Nat) : 64 * nI t + 8 * nI r + nI u = nI (64 * t + 8 * r + u) := by
  rw [show (64 : Int32) = nI 64 from rfl, show (8 : Int32) = nI 8 from rfl, pk_mul, pk_mul, nI_add, nI_add]
end
section
/-! throws: the throw itself, and a callee's throw that goes on to the caller -/
section BaseThrow
variable {p : Program} {l : Launch} {e : Env} {R : Room} {s : State} {m : MethodId} {args : Array Value} {below : List Frame} {meth : Method} {c : Code} {cc bytes : ByteArray} {H : Heap} {locs : List Loc} {cells slots : Nat} {pc : Nat} {ls : Array Slot} {v k : Int32} {D : va_G} {cI cZ cJ : ClassId} {ws W0 Wc : va_W} {A : Nat → Prop} {own C host : String} {index maxL nL fr lo n : Nat} {y : MethodName} {ret : Option FieldType} {wy Ts : List Cond} {As rest st0 : List Value} {b : Addr}
abbrev nx2 : List String := ["java/lang/RuntimeException", "java/lang/Exception"]
theorem nx2_fit : ∀ n ∈ nx2, Bundle.fit n = true := by decide +kernel
theorem tx_throw (hx : p.tables.exec = Jvm.exec) (hb : c.code = cc) (hst : l.stackTraces = false) (hown : s.vm.findClass RX1 = some m.cls) {E text : String} {ik is ic : Nat} (hE : E = xnm k) (hfit : Bundle.fit E = true)
    (hlk : (Cond.classLink RX1 ik E).before args s = true) (hini : (Cond.initialized E).before args s = true) (hN : NM s) (i9 : Nat) (h9 : nlS[i9]? = some (is, text)) (j9 : Nat) (h8 : nlC[j9]? = some E)
    (hg : ∀ w ∈ (vx_atS RX1 ic E nx2).filter goodWord, w.before args s = true) (hng : ∀ w ∈ (vx_atS RX1 ic E nx2).filter (fun w => !goodWord w), w ∈ [Cond.castable E E]) (hot : ∀ w ∈ Cond.classLink RX1 ik E :: Cond.initialized E :: vx_atS RX1 ic E nx2, vx_ot w = true)
    (hZ : ZQ A s s.heap) (hS : va_S A s.heap H locs) (hP : va_P D vwCl W0 H) (hsize : ls.size = c.maxLocals)
    (d0 : decode cc pc = .ok (.new ik, 3)) (d3 : decode cc (pc + 3) = .ok (.dup, 1)) (d4 : decode cc (pc + 4) = .ok (.ldc is, 2)) (d6 : decode cc (pc + 6) = .ok (.invokespecial ic, 3)) (d9 : decode cc (pc + 9) = .ok (.athrow, 1))
    (hout : ∀ x ∈ c.exceptionTable.toList, False) (hRf : 5 < R.frames) (hRl : (rest.map fun v => v.category).sum + 82 ≤ R.locals) (hRc : 1 ≤ R.cells) (hRs : 6 ≤ R.slots) (hlocks : meth.locks = false) :
    W p l e R s m args below meth c H locs 0 0 (vx_MQ below (fun _ _ _ _ => False) (vx_X (fun (_ : Unit) => True) (fun E _ t => E = xnm k ∧ va_P D vwCl W0 t.heap) A) args s 1 6 A) (F0 m pc ls rest) := by
  obtain ⟨sa, hsa⟩ := hN.2.1 _ (List.mem_of_getElem? h9)
  have hat : ∀ w ∈ vx_atS RX1 ic E nx2, w.before args s = true := vx_hat hg hng (vx_c (va_Nw.use rfl (hN.2.2 _ (List.mem_of_getElem? h8))) vx_n)
  refine vx_throwS hx hb hst hown hfit nx2_fit hlk hini hsa hat hot hZ.1 hZ.2 hS hsize d0 d3 d4 d6 d9 (fun x h => absurd (hout x h) id) hRf hRl (by simpa using hRc) (by simpa using hRs) hlocks ?_ hS.2.2 (by simp) (by simp)
  intro t _ hz hq
  refine ⟨(), trivial, ⟨hE, hP.kept (fun i q hi => hq q.1 (hP i q hi).lt)⟩, Nat.le_trans hS.1 hz, fun q h1 h2 => (hq q (Nat.lt_of_lt_of_le h1 hS.1)).trans (hS.2.1 q h1 h2)⟩
theorem tx_call {a : Array Value} (hr : vx_Run p l e R s m args below meth c H locs 0 0 1 6 (F0 m pc ls st0) rest (fun _ _ _ => False) (vx_X (fun (_ : Unit) => True) (fun E _ t => E = xnm k ∧ va_P D vwCl Wc t.heap) (va_A Wc H.size)) (va_A Wc H.size))
    (hP : va_P D vwCl ws H) (hD : va_D A ws) (hS : va_S A s.heap H locs) (hA : ∀ q : Nat, s.heap.size ≤ q → A q) (isC isR : List Nat) (hC : isC.map (fun i => ws[i]?) = Wc.map some) (k9 : Nat) (hlen : ws.length = k9) (hall : ∀ i, i < k9 → i ∈ isC ∨ i ∈ isR) (hdis : ∀ i ∈ isR, i ∉ isC)
    (hout : ∀ x ∈ c.exceptionTable.toList, False) (hlocks : meth.locks = false) :
    W p l e R s m args below meth c H locs 0 0 (vx_MQ below (fun _ _ _ _ => False) (vx_X (fun (_ : Unit) => True) (fun E _ t => E = xnm k ∧ va_P D vwCl ws t.heap) A) args s 1 6 A) (F0 m pc ls st0) := by
  have hFc := va_free hD hS hA isC hC
  intro T hT X
  rcases hr T hT X with ⟨v, st₀, t, T', L, h0, X', hL, e1, e2, hq, st⟩ | ⟨q, st₀, t, T', L, E, ce, h0, X', hL, e1, e2, ⟨u, -, ⟨hE, hB⟩, hF⟩, hce, hcv, hcl, st⟩
  · exact hq.elim
  · obtain ⟨k1, k2, k3⟩ := vx_keep h0 e1 hS (fun q _ h => hFc q h) hFc hL hF
    rw [← e1] at hB
    obtain ⟨hP2, -⟩ := wd_back hP hD isC isR hC hC (fun _ _ => rfl) rfl (by rw [hlen]; exact hall) hdis k2 hB
    obtain ⟨t2, a1, b1⟩ := vx_out (p := p) (l := l) (e := e) (R := R) (s := s) (m := m) (args := args) (below := below) (meth := meth) (c := c) (H := T'.heap) (locs := locs ++ L) (cells := 0 + 1) (slots := 0 + 6) (Qc := fun _ _ _ _ => False) (XC := vx_X (fun (_ : Unit) => True) (fun E _ t => E = xnm k ∧ va_P D vwCl ws t.heap) A) (free := A) (pc := pc) (ls := ls) (rest := rest) (E := E) (ce := ce) (q := q) (mc := 1) (ms := 6)
      (fun x h => absurd (hout x h) id) hlocks (by rw [e1]; exact hce) hcv hcl (fun t9 ht9 _ => ⟨(), trivial, ⟨hE, by rw [ht9]; exact hP2⟩, by rw [ht9]; exact k3.1, fun q h1 h2 => by rw [ht9]; exact k3.2.1 q h1 h2⟩) k3.2.2 (by omega) (by omega) T' rfl X'
    exact ⟨t2, st.trans a1, b1⟩
theorem tx_V (S : CallFix p m c cc nL s args Ts own) (hM : Tx l D cI cZ cJ y wy fr lo H.size (.ref b :: As) Wc k) (cw : CallW R s args own C index y bytes maxL ret wy (rmX fr lo) 1 6 n)
    (hP : va_P D vwCl ws H) (hD : va_D A ws) (hK : va_K D vwCl (tys9 cI cZ cJ) s) (hN : NM s) (hS : va_S A s.heap H locs) (hA : ∀ q : Nat, s.heap.size ≤ q → A q) (hZ : ZQ A s s.heap) (hrec : ∃ cell : Cell, H[b]? = some cell ∧ cell.vm.isStatics = false ∧ s.vm.findClass C = some cell.cls) (hn : As.length = n) (hsize : ls.size = nL) (hst : st0 = As.reverse ++ .ref b :: rest) (hW : (rest.map fun v => v.category).sum ≤ 8) (hdg : decode cc pc = .ok (.invokevirtual index, 3)) (hf : 1 ≤ R.cells ∧ 6 ≤ R.slots)
    (isC isR : List Nat) (hnd : va_nd isC = true) (hC : isC.map (fun i => ws[i]?) = Wc.map some) (k9 : Nat) (hlen : ws.length = k9) (hall : ∀ i, i < k9 → i ∈ isC ∨ i ∈ isR) (hdis : ∀ i ∈ isR, i ∉ isC) (hout : ∀ x ∈ c.exceptionTable.toList, False) (hlocks : meth.locks = false) :
    W p l e R s m args below meth c H locs 0 0 (vx_MQ below (fun _ _ _ _ => False) (vx_X (fun (_ : Unit) => True) (fun E _ t => E = xnm k ∧ va_P D vwCl ws t.heap) A) args s 1 6 A) (F0 m pc ls st0) := by
  have hPc : va_P D vwCl Wc H := wd_cut hP isC hC
  have hDc : va_D A Wc := hD.sub isC hnd hC
  have hFc := va_free hD hS hA isC hC
  have hb9 := xb_in hPc hK hN hDc (hZ.S hS) hFc (.ref b :: As)
  exact tx_call (a := (Value.ref b :: As).toArray) (vx_runV (As := As) (rest := rest) (b := b) S hM cw ⟨hb9.1, hrec, hb9.2⟩ rfl hn hsize hst (lv_room hW) hdg (by simpa using hf)) hP hD hS hA isC isR hC k9 hlen hall hdis hout hlocks
end BaseThrow
end
section
/-! the class's functions, as its bytecode has them -/
def yOf (q : Int32) : Int32 := (1 : Int32) <<< (q &&& 31)
def yIn (st q : Int32) : Bool := !decide (st &&& yOf q = 0)
def yRb (x : Int32) : Int32 := x ||| (x <<< ((8 : Int32) &&& 31)) ||| (x <<< ((16 : Int32) &&& 31))
def yWo (wi se gu : Int32) : Int32 := wi ||| (yOf se <<< ((8 : Int32) &&& 31)) ||| (yOf gu <<< ((16 : Int32) &&& 31))
def yBr (q k : Int32) : Int32 := if k = 1 then yOf q else if k = 2 then yOf q <<< ((8 : Int32) &&& 31) else if k = 3 then yOf q <<< ((16 : Int32) &&& 31) else 0
def yCb (k r : Int32) : Int32 := if k = 2 then yBr r 2 else if k = 3 then yBr r 3 else yBr r 1
def yHo (pl wi q : Int32) : Bool := !decide (q < 0) && !decide (pl ≤ q) && decide (wi &&& yOf q = 0)
def yP1 (x : Int32) : Int32 := x - ((x.toUInt32 >>> ((1 : Int32).toUInt32 &&& Int32.toUInt32 31)).toInt32 &&& 1431655765)
def yP2 (x : Int32) : Int32 := (x &&& 858993459) + ((x.toUInt32 >>> ((2 : Int32).toUInt32 &&& Int32.toUInt32 31)).toInt32 &&& 858993459)
def yP3 (x : Int32) : Int32 := (x + (x.toUInt32 >>> ((4 : Int32).toUInt32 &&& Int32.toUInt32 31)).toInt32) &&& 252645135
def yP4 (x : Int32) : Int32 := x + (x.toUInt32 >>> ((8 : Int32).toUInt32 &&& Int32.toUInt32 31)).toInt32
def yP5 (x : Int32) : Int32 := x + (x.toUInt32 >>> ((16 : Int32).toUInt32 &&& Int32.toUInt32 31)).toInt32
def yPop (x : Int32) : Int32 := yP5 (yP4 (yP3 (yP2 (yP1 x)))) &&& 63
def yGood (pl wi se gu : Int32) : Bool := !decide (pl < 4) && !decide (8 < pl) && decide (wi &&& (xAll pl ^^^ (-1)) = 0) && !decide (wi = 0) && !decide (pl ≤ 2 * yPop wi) && yHo pl wi se && yHo pl wi gu && !decide (se = gu)
def yKd (a : Nat → Int32) : Int32 := yRb (xAll (a 2) &&& (a 6 ^^^ (-1)))
def yKn (a : Nat → Int32) (q : Int32) : Int32 := if q = -1 then yKd a else if yIn (a 3) q = true then (yKd a ||| yRb (yOf q)) ||| 255 else if q = a 4 then (yKd a ||| yRb (yOf q)) ||| a 7 else yKd a ||| yRb (yOf q)
def yPl (a : Nat → Int32) (q : Int32) : Bool := !decide (q < 0) && decide (q < a 2)
def yVw (a : Nat → Int32) (q : Int32) : Bool := decide (q = -1) || yPl a q
theorem sw123 {k : Int32} (h1 : ¬ k = 1) (h2 : ¬ k = 2) (h3 : ¬ k = 3) : k.toInt < 1 ∨ 3 < k.toInt := by
  have g1 : ¬ k.toInt = 1 := fun h => h1 (Int32.toInt_inj.mp h)
  have g2 : ¬ k.toInt = 2 := fun h => h2 (Int32.toInt_inj.mp h)
  have g3 : ¬ k.toInt = 3 := fun h => h3 (Int32.toInt_inj.mp h)
  omega
/-- worlds and the book: wd a world, tr the true one, kn the bits known -/
def yAgr (wd tr kn : Int32) : Bool := decide ((wd ^^^ tr) &&& kn = 0)
def yAg (wd q bits : Int32) (b : Bool) : Bool := !decide (wd &&& yOf q = 0) || ((!decide (wd &&& bits = 0)) == b)
def pAg (g : Nat → Int32) (tr kn : Int32) (n : Nat) : Bool := yAgr (g n) tr kn
def pRo (g : Nat → Int32) (tr kn q k : Int32) (n : Nat) : Bool := decide (g n &&& yRb (yOf q) = yBr q k) && yAgr (g n) tr kn
def yWa (g : Nat → Int32) (tr kn : Int32) : Nat → Int32
  | 0 => 255
  | n + 1 => if yAgr (g n) tr kn = true then yWa g tr kn n &&& (g n &&& 255) else yWa g tr kn n
def yWy (g : Nat → Int32) (tr kn : Int32) : Nat → Int32
  | 0 => 0
  | n + 1 => if yAgr (g n) tr kn = true then yWy g tr kn n ||| (g n &&& 255) else yWy g tr kn n
def yCs (g : Nat → Int32) (tr kn : Int32) : Nat → Int32 × Int32
  | 0 => (0, 0)
  | n + 1 => if yAgr (g n) tr kn = true then (if g n &&& 255 = (yCs g tr kn n).2 then yCs g tr kn n else ((yCs g tr kn n).1 + 1, g n &&& 255)) else yCs g tr kn n
def yHs (g : Nat → Int32) (wd : Int32) : Nat → Bool
  | 0 => false
  | n + 1 => yHs g wd n || decide (g n = wd)
theorem yHs_of {g : Nat → Int32} {wd : Int32} {i : Nat} (h : g i = wd) : ∀ n, i < n → yHs g wd n = true := by
  intro n
  induction n with
  | zero => intro h2; exact absurd h2 (Nat.not_lt_zero _)
  | succ n ih =>
    intro h2
    rcases Nat.lt_or_ge i n with h3 | h3
    · simp [yHs, ih h3]
    · have : i = n := by omega
      subst this
      simp [yHs, h]
/-- how many of the first n, as a number -/
def nCt (P : Nat → Bool) : Nat → Nat
  | 0 => 0
  | n + 1 => nCt P n + (if P n = true then 1 else 0)
theorem nCt_le (P : Nat → Bool) : ∀ n, nCt P n ≤ n := by
  intro n
  induction n with
  | zero => exact Nat.le_refl _
  | succ n ih => unfold nCt; split <;> omega
/-- the book where a claim strikes out: after the first n pages -/
def kcP (P : Int32 → Bool) (g : Nat → Int32) (n : Nat) : Bool := P (g n)
def kcF (P : Int32 → Bool) (g : Nat → Int32) : Nat → Nat → Int32
  | 0 => g
  | n + 1 => if P (g n) = true then upd (upd (kcF P g n) n 0) (nCt (kcP P g) n) (g n) else upd (kcF P g n) n 0
theorem kcF_ge (P : Int32 → Bool) (g : Nat → Int32) : ∀ n j, n ≤ j → kcF P g n j = g j := by
  intro n
  induction n with
  | zero => intro j _; rfl
  | succ n ih =>
    intro j hj
    have h1 := nCt_le (kcP P g) n
    unfold kcF
    split
    · simp only [upd]
      rw [if_neg (by omega), if_neg (by omega)]
      exact ih j (by omega)
    · simp only [upd]
      rw [if_neg (by omega)]
      exact ih j (by omega)
theorem kcF_at (P : Int32 → Bool) (g : Nat → Int32) (n : Nat) : kcF P g n n = g n := kcF_ge P g n n (Nat.le_refl _)
theorem kEx1 {i K : Nat} (hi : i ≤ K) (hK : K ≤ 1120) (c : (1120 : Int32) ≤ nI i) : i = K := by
  have := geN (i := i) (N := 1120) (by omega) (by omega) rfl c
  omega
theorem kEx2 {i K : Nat} {g : Nat → Int32} (hi : i ≤ K) (hg : ∀ j, j < K → ¬ g j = 0) (c : g i = 0) : i = K := by
  rcases Nat.lt_or_ge i K with h | h
  · exact absurd c (hg i h)
  · omega
theorem kEx3 {i K : Nat} {g : Nat → Int32} (hi : i ≤ K) (hlt : i < 1120) (hz : K < 1120 → g K = 0) (c : ¬ g i = 0) : i < K := by
  rcases Nat.lt_or_ge i K with h | h
  · exact h
  · have : i = K := by omega
    subst this
    exact absurd (hz hlt) c
end
section
set_option maxHeartbeats 2000000 in
set_option maxRecDepth 100000 in
theorem c_J6_bitCount_0f7a4 (l : Launch) (D : va_G) (cI cZ cJ : ClassId) (x : Int32)  : Rd l D cI cZ cJ yJ6_bitCount_0f7a4 wsJ6_bitCount_0f7a4 0 0 [.int x] [] (yPop x) := by
  refine rd_of (by decide) rfl (Nat.le_of_ble_eq_true rfl) (fun p e s m below meth c ls hx hb hr hml hts hown hlocks hP hK hN hl => ?_)
  have hl : lv_has ls 1 [(0, .int x)] := hl
  refine lv_iload_n hx hb dJ6_bitCount_0f7a4_0 rfl (lv_at hl 0 rfl) ?_
  refine lv_iload_n hx hb dJ6_bitCount_0f7a4_1 rfl (lv_at hl 0 rfl) ?_
  refine lv_iconst (v := 1) hx hb dJ6_bitCount_0f7a4_2 (by decide) ?_
  refine lv_iushr hx hb dJ6_bitCount_0f7a4_3 rfl ?_
  refine lv_ldcw (v := 1431655765) hx hb hown (hts (.constant RJ6 265 (1431655765)) (List.mem_of_getElem? (i := 1) rfl)) dJ6_bitCount_0f7a4_4 ?_
  refine lv_iand hx hb dJ6_bitCount_0f7a4_7 ?_
  refine lv_isub hx hb dJ6_bitCount_0f7a4_8 ?_
  refine lv_topi (fun x_1 e_1 => ?_)
  refine lv_istore_n (lv' := [(0, .int x_1)]) hx hb dJ6_bitCount_0f7a4_9 rfl hl (by decide) rfl (fun ls hl => ?_)
  refine lv_iload_n hx hb dJ6_bitCount_0f7a4_10 rfl (lv_at hl 0 rfl) ?_
  refine lv_ldcw (v := 858993459) hx hb hown (hts (.constant RJ6 266 (858993459)) (List.mem_of_getElem? (i := 2) rfl)) dJ6_bitCount_0f7a4_11 ?_
  refine lv_iand hx hb dJ6_bitCount_0f7a4_14 ?_
  refine lv_iload_n hx hb dJ6_bitCount_0f7a4_15 rfl (lv_at hl 0 rfl) ?_
  refine lv_iconst (v := 2) hx hb dJ6_bitCount_0f7a4_16 (by decide) ?_
  refine lv_iushr hx hb dJ6_bitCount_0f7a4_17 rfl ?_
  refine lv_ldcw (v := 858993459) hx hb hown (hts (.constant RJ6 266 (858993459)) (List.mem_of_getElem? (i := 2) rfl)) dJ6_bitCount_0f7a4_18 ?_
  refine lv_iand hx hb dJ6_bitCount_0f7a4_21 ?_
  refine lv_iadd hx hb dJ6_bitCount_0f7a4_22 ?_
  refine lv_topi (fun x_2 e_2 => ?_)
  refine lv_istore_n (lv' := [(0, .int x_2)]) hx hb dJ6_bitCount_0f7a4_23 rfl hl (by decide) rfl (fun ls hl => ?_)
  refine lv_iload_n hx hb dJ6_bitCount_0f7a4_24 rfl (lv_at hl 0 rfl) ?_
  refine lv_iload_n hx hb dJ6_bitCount_0f7a4_25 rfl (lv_at hl 0 rfl) ?_
  refine lv_iconst (v := 4) hx hb dJ6_bitCount_0f7a4_26 (by decide) ?_
  refine lv_iushr hx hb dJ6_bitCount_0f7a4_27 rfl ?_
  refine lv_iadd hx hb dJ6_bitCount_0f7a4_28 ?_
  refine lv_ldcw (v := 252645135) hx hb hown (hts (.constant RJ6 267 (252645135)) (List.mem_of_getElem? (i := 3) rfl)) dJ6_bitCount_0f7a4_29 ?_
  refine lv_iand hx hb dJ6_bitCount_0f7a4_32 ?_
  refine lv_topi (fun x_3 e_3 => ?_)
  refine lv_istore_n (lv' := [(0, .int x_3)]) hx hb dJ6_bitCount_0f7a4_33 rfl hl (by decide) rfl (fun ls hl => ?_)
  refine lv_iload_n hx hb dJ6_bitCount_0f7a4_34 rfl (lv_at hl 0 rfl) ?_
  refine lv_iload_n hx hb dJ6_bitCount_0f7a4_35 rfl (lv_at hl 0 rfl) ?_
  refine lv_bipush (v := 8) hx hb dJ6_bitCount_0f7a4_36 (by decide) ?_
  refine lv_iushr hx hb dJ6_bitCount_0f7a4_38 rfl ?_
  refine lv_iadd hx hb dJ6_bitCount_0f7a4_39 ?_
  refine lv_topi (fun x_4 e_4 => ?_)
  refine lv_istore_n (lv' := [(0, .int x_4)]) hx hb dJ6_bitCount_0f7a4_40 rfl hl (by decide) rfl (fun ls hl => ?_)
  refine lv_iload_n hx hb dJ6_bitCount_0f7a4_41 rfl (lv_at hl 0 rfl) ?_
  refine lv_iload_n hx hb dJ6_bitCount_0f7a4_42 rfl (lv_at hl 0 rfl) ?_
  refine lv_bipush (v := 16) hx hb dJ6_bitCount_0f7a4_43 (by decide) ?_
  refine lv_iushr hx hb dJ6_bitCount_0f7a4_45 rfl ?_
  refine lv_iadd hx hb dJ6_bitCount_0f7a4_46 ?_
  refine lv_topi (fun x_5 e_5 => ?_)
  refine lv_istore_n (lv' := [(0, .int x_5)]) hx hb dJ6_bitCount_0f7a4_47 rfl hl (by decide) rfl (fun ls hl => ?_)
  refine lv_iload_n hx hb dJ6_bitCount_0f7a4_48 rfl (lv_at hl 0 rfl) ?_
  refine lv_bipush (v := 63) hx hb dJ6_bitCount_0f7a4_49 (by decide) ?_
  refine lv_iand hx hb dJ6_bitCount_0f7a4_51 ?_
  exact rd_iret hx hb hr hlocks (by rw [e_5, e_4, e_3, e_2, e_1]; rfl) dJ6_bitCount_0f7a4_52

set_option maxHeartbeats 2000000 in
set_option maxRecDepth 100000 in
theorem c_fill8 (l : Launch) (D : va_G) (cI cZ cJ : ClassId) (sz : Nat) (hV : Nat) (g : Nat → Int32) (x : Int32)  : Mv l D cI cZ cJ yJ7_fill_53178 wsJ7_fill_53178 0 0 sz [.ref hV, .int x] [cA cI hV 8 g] [cA cI hV 8 (iUp (fun _ => x) g 8)] := by
  refine mv_of (by decide) rfl (Nat.le_of_ble_eq_true rfl) (fun p e s m below meth c ls A hx hb hr hml hts hown hlocks hin hP hK hN hD hA hS hl => ?_)
  have hl : lv_has ls 4 [(0, .ref hV), (1, .int x)] := hl
  refine lv_iconst (v := 0) hx hb dJ7_fill_53178_0 (by decide) ?_
  refine lv_istore_n (lv' := [(2, .int 0), (0, .ref hV), (1, .int x)]) hx hb dJ7_fill_53178_1 rfl hl (by decide) rfl (fun ls hl => ?_)
  refine lv_aload_n hx hb dJ7_fill_53178_2 rfl (lv_at hl 1 rfl) ?_
  refine va_alen (D := D) (cl := vwCl) hx hb hK hP 0 0 rfl rfl (v := 8) rfl dJ7_fill_53178_3 ?_
  refine lv_istore_n (lv' := [(3, .int 8), (2, .int 0), (0, .ref hV), (1, .int x)]) hx hb dJ7_fill_53178_4 rfl hl (by decide) rfl (fun ls hl => ?_)
  refine loop_M (D := D) (nL := 4) (h := 5) 8 (fun i => [(0, .ref hV), (1, .int x), (2, .int (nI i)), (3, .int 8)]) (fun i => [cA cI hV 8 (iUp (fun _ => x) g i)]) (fun _ => True) (fun i hi hI ih_i H locs ls hP hD hS hl => ?_) 0 (by omega) trivial _ _ ls ?_ ?_ hS ?_
  · have hl : lv_has ls 4 [(0, .ref hV), (1, .int x), (2, .int (nI i)), (3, .int 8)] := hl
    have hP : va_P D vwCl [cA cI hV 8 (iUp (fun _ => x) g i)] H := hP
    have hD : va_D A [cA cI hV 8 (iUp (fun _ => x) g i)] := hD
    refine lv_iload_n hx hb dJ7_fill_53178_5 rfl (lv_at hl 2 rfl) ?_
    refine lv_iload_n hx hb dJ7_fill_53178_6 rfl (lv_at hl 3 rfl) ?_
    refine lv_icmp_ge (tgt := 20) hx hb dJ7_fill_53178_7 (by decide) (fun c_2 => ?_) (fun c_2 => ?_)
    · have hi9 : 8 = i := (geN hi (by omega) rfl c_2).symm
      subst hi9
      have hP9 : va_P D vwCl [cA cI hV 8 (iUp (fun _ => x) g 8)] H := by
        exact hP
      exact mv_ret hx hb hr hlocks hS hP9 dJ7_fill_53178_20
    · have hlt : i < 8 := ltN hi (by omega) rfl c_2
      refine lv_aload_n hx hb dJ7_fill_53178_10 rfl (lv_at hl 0 rfl) ?_
      refine lv_iload_n hx hb dJ7_fill_53178_11 rfl (lv_at hl 2 rfl) ?_
      refine lv_iload_n hx hb dJ7_fill_53178_12 rfl (lv_at hl 1 rfl) ?_
      refine q_iast (D := D) (j := i) hx hb hK hP hD hS 0 0 rfl rfl (by omega) (Nat.le_of_ble_eq_true rfl) dJ7_fill_53178_13 (fun H locs hP hD hS => ?_)
      have hP : va_P D vwCl [cA cI hV 8 (upd (iUp (fun _ => x) g i) i x)] H := hP
      have hD : va_D A [cA cI hV 8 (upd (iUp (fun _ => x) g i) i x)] := hD
      refine lv_iinc (v := (nI (i + 1))) (lv' := [(2, .int (nI (i + 1))), (0, .ref hV), (1, .int x), (3, .int 8)]) hx hb dJ7_fill_53178_14 hl (k := 2) rfl (nI_1 i) (by decide) rfl (fun ls hl => ?_)
      refine lv_goto (tgt := 5) hx hb dJ7_fill_53178_17 (by decide) ?_
      have ew_0 : (iUp (fun _ => x) g (i + 1)) = (upd (iUp (fun _ => x) g i) i x) := by exact iUp_step rfl
      exact ih_i (by omega) trivial _ _ ls (by show va_P D vwCl [cA cI hV 8 (iUp (fun _ => x) g (i + 1))] _; rw [ew_0]; exact hP) (by show va_D A [cA cI hV 8 (iUp (fun _ => x) g (i + 1))]; rw [ew_0]; exact hD) hS (by show lv_has ls 4 [(0, .ref hV), (1, .int x), (2, .int (nI (i + 1))), (3, .int 8)]; exact lv_sub hl [1, 2, 0, 3] rfl)
  · show va_P D vwCl [cA cI hV 8 (iUp (fun _ => x) g 0)] _
    have ez_0 : (iUp (fun _ => x) g 0) = g := by exact iUp_0 _ _
    rw [ez_0]
    exact hP
  · show va_D A [cA cI hV 8 (iUp (fun _ => x) g 0)]
    have ez_0 : (iUp (fun _ => x) g 0) = g := by exact iUp_0 _ _
    rw [ez_0]
    exact hD
  · show lv_has ls 4 [(0, .ref hV), (1, .int x), (2, .int (nI 0)), (3, .int 8)]
    have en_0 : (nI 0) = 0 := by exact nI_0
    rw [en_0]
    exact lv_sub hl [2, 3, 1, 0] rfl

set_option maxHeartbeats 2000000 in
set_option maxRecDepth 100000 in
theorem c_fill1120 (l : Launch) (D : va_G) (cI cZ cJ : ClassId) (sz : Nat) (hG : Nat) (g : Nat → Int32) (x : Int32)  : Mv l D cI cZ cJ yJ7_fill_53178 wsJ7_fill_53178 0 0 sz [.ref hG, .int x] [cA cI hG 1120 g] [cA cI hG 1120 (iUp (fun _ => x) g 1120)] := by
  refine mv_of (by decide) rfl (Nat.le_of_ble_eq_true rfl) (fun p e s m below meth c ls A hx hb hr hml hts hown hlocks hin hP hK hN hD hA hS hl => ?_)
  have hl : lv_has ls 4 [(0, .ref hG), (1, .int x)] := hl
  refine lv_iconst (v := 0) hx hb dJ7_fill_53178_0 (by decide) ?_
  refine lv_istore_n (lv' := [(2, .int 0), (0, .ref hG), (1, .int x)]) hx hb dJ7_fill_53178_1 rfl hl (by decide) rfl (fun ls hl => ?_)
  refine lv_aload_n hx hb dJ7_fill_53178_2 rfl (lv_at hl 1 rfl) ?_
  refine va_alen (D := D) (cl := vwCl) hx hb hK hP 0 0 rfl rfl (v := 1120) rfl dJ7_fill_53178_3 ?_
  refine lv_istore_n (lv' := [(3, .int 1120), (2, .int 0), (0, .ref hG), (1, .int x)]) hx hb dJ7_fill_53178_4 rfl hl (by decide) rfl (fun ls hl => ?_)
  refine loop_M (D := D) (nL := 4) (h := 5) 1120 (fun i => [(0, .ref hG), (1, .int x), (2, .int (nI i)), (3, .int 1120)]) (fun i => [cA cI hG 1120 (iUp (fun _ => x) g i)]) (fun _ => True) (fun i hi hI ih_i H locs ls hP hD hS hl => ?_) 0 (by omega) trivial _ _ ls ?_ ?_ hS ?_
  · have hl : lv_has ls 4 [(0, .ref hG), (1, .int x), (2, .int (nI i)), (3, .int 1120)] := hl
    have hP : va_P D vwCl [cA cI hG 1120 (iUp (fun _ => x) g i)] H := hP
    have hD : va_D A [cA cI hG 1120 (iUp (fun _ => x) g i)] := hD
    refine lv_iload_n hx hb dJ7_fill_53178_5 rfl (lv_at hl 2 rfl) ?_
    refine lv_iload_n hx hb dJ7_fill_53178_6 rfl (lv_at hl 3 rfl) ?_
    refine lv_icmp_ge (tgt := 20) hx hb dJ7_fill_53178_7 (by decide) (fun c_2 => ?_) (fun c_2 => ?_)
    · have hi9 : 1120 = i := (geN hi (by omega) rfl c_2).symm
      subst hi9
      have hP9 : va_P D vwCl [cA cI hG 1120 (iUp (fun _ => x) g 1120)] H := by
        exact hP
      exact mv_ret hx hb hr hlocks hS hP9 dJ7_fill_53178_20
    · have hlt : i < 1120 := ltN hi (by omega) rfl c_2
      refine lv_aload_n hx hb dJ7_fill_53178_10 rfl (lv_at hl 0 rfl) ?_
      refine lv_iload_n hx hb dJ7_fill_53178_11 rfl (lv_at hl 2 rfl) ?_
      refine lv_iload_n hx hb dJ7_fill_53178_12 rfl (lv_at hl 1 rfl) ?_
      refine q_iast (D := D) (j := i) hx hb hK hP hD hS 0 0 rfl rfl (by omega) (Nat.le_of_ble_eq_true rfl) dJ7_fill_53178_13 (fun H locs hP hD hS => ?_)
      have hP : va_P D vwCl [cA cI hG 1120 (upd (iUp (fun _ => x) g i) i x)] H := hP
      have hD : va_D A [cA cI hG 1120 (upd (iUp (fun _ => x) g i) i x)] := hD
      refine lv_iinc (v := (nI (i + 1))) (lv' := [(2, .int (nI (i + 1))), (0, .ref hG), (1, .int x), (3, .int 1120)]) hx hb dJ7_fill_53178_14 hl (k := 2) rfl (nI_1 i) (by decide) rfl (fun ls hl => ?_)
      refine lv_goto (tgt := 5) hx hb dJ7_fill_53178_17 (by decide) ?_
      have ew_0 : (iUp (fun _ => x) g (i + 1)) = (upd (iUp (fun _ => x) g i) i x) := by exact iUp_step rfl
      exact ih_i (by omega) trivial _ _ ls (by show va_P D vwCl [cA cI hG 1120 (iUp (fun _ => x) g (i + 1))] _; rw [ew_0]; exact hP) (by show va_D A [cA cI hG 1120 (iUp (fun _ => x) g (i + 1))]; rw [ew_0]; exact hD) hS (by show lv_has ls 4 [(0, .ref hG), (1, .int x), (2, .int (nI (i + 1))), (3, .int 1120)]; exact lv_sub hl [1, 2, 0, 3] rfl)
  · show va_P D vwCl [cA cI hG 1120 (iUp (fun _ => x) g 0)] _
    have ez_0 : (iUp (fun _ => x) g 0) = g := by exact iUp_0 _ _
    rw [ez_0]
    exact hP
  · show va_D A [cA cI hG 1120 (iUp (fun _ => x) g 0)]
    have ez_0 : (iUp (fun _ => x) g 0) = g := by exact iUp_0 _ _
    rw [ez_0]
    exact hD
  · show lv_has ls 4 [(0, .ref hG), (1, .int x), (2, .int (nI 0)), (3, .int 1120)]
    have en_0 : (nI 0) = 0 := by exact nI_0
    rw [en_0]
    exact lv_sub hl [2, 3, 1, 0] rfl
end
section
set_option maxHeartbeats 2000000 in
set_option maxRecDepth 100000 in
theorem c_X1_setOf (l : Launch) (D : va_G) (cI cZ cJ : ClassId) (q : Int32)  : Rd l D cI cZ cJ yX1_setOf wsX1_setOf 0 0 [.int q] [] (yOf q) := by
  refine rd_of (by decide) rfl (Nat.le_of_ble_eq_true rfl) (fun p e s m below meth c ls hx hb hr hml hts hown hlocks hP hK hN hl => ?_)
  have hl : lv_has ls 1 [(0, .int q)] := hl
  refine lv_iconst (v := 1) hx hb dX1_setOf_0 (by decide) ?_
  refine lv_iload_n hx hb dX1_setOf_1 rfl (lv_at hl 0 rfl) ?_
  refine lv_ishl hx hb dX1_setOf_2 ?_
  exact rd_iret hx hb hr hlocks (by rfl) dX1_setOf_3

set_option maxHeartbeats 2000000 in
set_option maxRecDepth 100000 in
theorem c_X1_everyone (l : Launch) (D : va_G) (cI cZ cJ : ClassId) (pl : Int32)  : Rd l D cI cZ cJ yX1_everyone wsX1_everyone 0 0 [.int pl] [] (xAll pl) := by
  refine rd_of (by decide) rfl (Nat.le_of_ble_eq_true rfl) (fun p e s m below meth c ls hx hb hr hml hts hown hlocks hP hK hN hl => ?_)
  have hl : lv_has ls 1 [(0, .int pl)] := hl
  refine lv_iconst (v := 1) hx hb dX1_everyone_0 (by decide) ?_
  refine lv_iload_n hx hb dX1_everyone_1 rfl (lv_at hl 0 rfl) ?_
  refine lv_ishl hx hb dX1_everyone_2 ?_
  refine lv_iconst (v := 1) hx hb dX1_everyone_3 (by decide) ?_
  refine lv_isub hx hb dX1_everyone_4 ?_
  exact rd_iret hx hb hr hlocks (by rfl) dX1_everyone_5

set_option maxHeartbeats 2000000 in
set_option maxRecDepth 100000 in
theorem c_X1_witchesOf (l : Launch) (D : va_G) (cI cZ cJ : ClassId) (x : Int32)  : Rd l D cI cZ cJ yX1_witchesOf wsX1_witchesOf 0 0 [.int x] [] ((x &&& 255)) := by
  refine rd_of (by decide) rfl (Nat.le_of_ble_eq_true rfl) (fun p e s m below meth c ls hx hb hr hml hts hown hlocks hP hK hN hl => ?_)
  have hl : lv_has ls 1 [(0, .int x)] := hl
  refine lv_iload_n hx hb dX1_witchesOf_0 rfl (lv_at hl 0 rfl) ?_
  refine lv_sipush (v := 255) hx hb dX1_witchesOf_1 (by decide) ?_
  refine lv_iand hx hb dX1_witchesOf_4 ?_
  exact rd_iret hx hb hr hlocks (by rfl) dX1_witchesOf_5

set_option maxHeartbeats 2000000 in
set_option maxRecDepth 100000 in
theorem c_X1_roleBits (l : Launch) (D : va_G) (cI cZ cJ : ClassId) (x : Int32)  : Rd l D cI cZ cJ yX1_roleBits wsX1_roleBits 0 0 [.int x] [] (yRb x) := by
  refine rd_of (by decide) rfl (Nat.le_of_ble_eq_true rfl) (fun p e s m below meth c ls hx hb hr hml hts hown hlocks hP hK hN hl => ?_)
  have hl : lv_has ls 1 [(0, .int x)] := hl
  refine lv_iload_n hx hb dX1_roleBits_0 rfl (lv_at hl 0 rfl) ?_
  refine lv_iload_n hx hb dX1_roleBits_1 rfl (lv_at hl 0 rfl) ?_
  refine lv_bipush (v := 8) hx hb dX1_roleBits_2 (by decide) ?_
  refine lv_ishl hx hb dX1_roleBits_4 ?_
  refine lv_ior hx hb dX1_roleBits_5 ?_
  refine lv_iload_n hx hb dX1_roleBits_6 rfl (lv_at hl 0 rfl) ?_
  refine lv_bipush (v := 16) hx hb dX1_roleBits_7 (by decide) ?_
  refine lv_ishl hx hb dX1_roleBits_9 ?_
  refine lv_ior hx hb dX1_roleBits_10 ?_
  exact rd_iret hx hb hr hlocks (by rfl) dX1_roleBits_11

set_option maxHeartbeats 2000000 in
set_option maxRecDepth 100000 in
theorem c_X1_worldOf (l : Launch) (D : va_G) (cI cZ cJ : ClassId) (wi : Int32) (se : Int32) (gu : Int32)  : Rd l D cI cZ cJ yX1_worldOf wsX1_worldOf 1 20 [.int wi, .int se, .int gu] [] (yWo wi se gu) := by
  refine rd_of (by decide) rfl (Nat.le_of_ble_eq_true rfl) (fun p e s m below meth c ls hx hb hr hml hts hown hlocks hP hK hN hl => ?_)
  have hl : lv_has ls 3 [(0, .int wi), (1, .int se), (2, .int gu)] := hl
  refine lv_iload_n hx hb dX1_worldOf_0 rfl (lv_at hl 0 rfl) ?_
  refine lv_iload_n hx hb dX1_worldOf_1 rfl (lv_at hl 1 rfl) ?_
  refine rd_S (As := [.int se]) (rest := [.int wi]) ⟨hx, hb, hml, hown, hts⟩ (c_X1_setOf l D cI cZ cJ se) (va_cwS 1 hts gX1_worldOf_X1_setOf rfl rfl rfl (by decide +kernel) ⟨Nat.le_of_ble_eq_true rfl, Nat.le_of_ble_eq_true rfl⟩) (hP.sub (ws' := []) [] rfl) hK hN rfl hl.1 rfl (Nat.le_of_ble_eq_true rfl) dX1_worldOf_2 ⟨Nat.le_of_ble_eq_true rfl, Nat.le_of_ble_eq_true rfl⟩ ?_
  refine lv_bipush (v := 8) hx hb dX1_worldOf_5 (by decide) ?_
  refine lv_ishl hx hb dX1_worldOf_7 ?_
  refine lv_ior hx hb dX1_worldOf_8 ?_
  refine lv_iload_n hx hb dX1_worldOf_9 rfl (lv_at hl 2 rfl) ?_
  refine rd_S (As := [.int gu]) (rest := [.int (wi ||| ((yOf se) <<< ((8 : Int32) &&& 31)))]) ⟨hx, hb, hml, hown, hts⟩ (c_X1_setOf l D cI cZ cJ gu) (va_cwS 1 hts gX1_worldOf_X1_setOf rfl rfl rfl (by decide +kernel) ⟨Nat.le_of_ble_eq_true rfl, Nat.le_of_ble_eq_true rfl⟩) (hP.sub (ws' := []) [] rfl) hK hN rfl hl.1 rfl (Nat.le_of_ble_eq_true rfl) dX1_worldOf_10 ⟨Nat.le_of_ble_eq_true rfl, Nat.le_of_ble_eq_true rfl⟩ ?_
  refine lv_bipush (v := 16) hx hb dX1_worldOf_13 (by decide) ?_
  refine lv_ishl hx hb dX1_worldOf_15 ?_
  refine lv_ior hx hb dX1_worldOf_16 ?_
  exact rd_iret hx hb hr hlocks (by rfl) dX1_worldOf_17

set_option maxHeartbeats 2000000 in
set_option maxRecDepth 100000 in
theorem c_X1_bitOfRole (l : Launch) (D : va_G) (cI cZ cJ : ClassId) (q : Int32) (k : Int32)  : Rd l D cI cZ cJ yX1_bitOfRole wsX1_bitOfRole 1 20 [.int q, .int k] [] (yBr q k) := by
  refine rd_of (by decide) rfl (Nat.le_of_ble_eq_true rfl) (fun p e s m below meth c ls hx hb hr hml hts hown hlocks hP hK hN hl => ?_)
  have hl : lv_has ls 2 [(0, .int q), (1, .int k)] := hl
  refine lv_iload_n hx hb dX1_bitOfRole_0 rfl (lv_at hl 1 rfl) ?_
  by_cases c_s1 : k = 1
  · refine lv_tableIn (off := 27) (tgt := 28) hx hb dX1_bitOfRole_1 (by rw [c_s1]; decide) (by rw [c_s1]; decide) (by rw [c_s1]; rfl) (by decide) ?_
    refine lv_iload_n hx hb dX1_bitOfRole_28 rfl (lv_at hl 0 rfl) ?_
    refine rd_S (As := [.int q]) (rest := []) ⟨hx, hb, hml, hown, hts⟩ (c_X1_setOf l D cI cZ cJ q) (va_cwS 1 hts gX1_bitOfRole_X1_setOf rfl rfl rfl (by decide +kernel) ⟨Nat.le_of_ble_eq_true rfl, Nat.le_of_ble_eq_true rfl⟩) (hP.sub (ws' := []) [] rfl) hK hN rfl hl.1 rfl (Nat.le_of_ble_eq_true rfl) dX1_bitOfRole_29 ⟨Nat.le_of_ble_eq_true rfl, Nat.le_of_ble_eq_true rfl⟩ ?_
    exact rd_iret hx hb hr hlocks (by (first | rfl | (simp only [yBr, bI, eq_true c_s1, eq_self, ↓reduceIte]; done) | (simp only [yBr, bI, eq_true c_s1, eq_self, ↓reduceIte]; rfl) | simp [yBr, bI, eq_true c_s1])) dX1_bitOfRole_32
  by_cases c_s2 : k = 2
  · refine lv_tableIn (off := 32) (tgt := 33) hx hb dX1_bitOfRole_1 (by rw [c_s2]; decide) (by rw [c_s2]; decide) (by rw [c_s2]; rfl) (by decide) ?_
    refine lv_iload_n hx hb dX1_bitOfRole_33 rfl (lv_at hl 0 rfl) ?_
    refine rd_S (As := [.int q]) (rest := []) ⟨hx, hb, hml, hown, hts⟩ (c_X1_setOf l D cI cZ cJ q) (va_cwS 1 hts gX1_bitOfRole_X1_setOf rfl rfl rfl (by decide +kernel) ⟨Nat.le_of_ble_eq_true rfl, Nat.le_of_ble_eq_true rfl⟩) (hP.sub (ws' := []) [] rfl) hK hN rfl hl.1 rfl (Nat.le_of_ble_eq_true rfl) dX1_bitOfRole_34 ⟨Nat.le_of_ble_eq_true rfl, Nat.le_of_ble_eq_true rfl⟩ ?_
    refine lv_bipush (v := 8) hx hb dX1_bitOfRole_37 (by decide) ?_
    refine lv_ishl hx hb dX1_bitOfRole_39 ?_
    exact rd_iret hx hb hr hlocks (by (first | rfl | (simp only [yBr, bI, c_s1, eq_true c_s2, eq_self, ↓reduceIte]; done) | (simp only [yBr, bI, c_s1, eq_true c_s2, eq_self, ↓reduceIte]; rfl) | simp [yBr, bI, c_s1, eq_true c_s2])) dX1_bitOfRole_40
  by_cases c_s3 : k = 3
  · refine lv_tableIn (off := 40) (tgt := 41) hx hb dX1_bitOfRole_1 (by rw [c_s3]; decide) (by rw [c_s3]; decide) (by rw [c_s3]; rfl) (by decide) ?_
    refine lv_iload_n hx hb dX1_bitOfRole_41 rfl (lv_at hl 0 rfl) ?_
    refine rd_S (As := [.int q]) (rest := []) ⟨hx, hb, hml, hown, hts⟩ (c_X1_setOf l D cI cZ cJ q) (va_cwS 1 hts gX1_bitOfRole_X1_setOf rfl rfl rfl (by decide +kernel) ⟨Nat.le_of_ble_eq_true rfl, Nat.le_of_ble_eq_true rfl⟩) (hP.sub (ws' := []) [] rfl) hK hN rfl hl.1 rfl (Nat.le_of_ble_eq_true rfl) dX1_bitOfRole_42 ⟨Nat.le_of_ble_eq_true rfl, Nat.le_of_ble_eq_true rfl⟩ ?_
    refine lv_bipush (v := 16) hx hb dX1_bitOfRole_45 (by decide) ?_
    refine lv_ishl hx hb dX1_bitOfRole_47 ?_
    exact rd_iret hx hb hr hlocks (by (first | rfl | (simp only [yBr, bI, c_s1, c_s2, eq_true c_s3, eq_self, ↓reduceIte]; done) | (simp only [yBr, bI, c_s1, c_s2, eq_true c_s3, eq_self, ↓reduceIte]; rfl) | simp [yBr, bI, c_s1, c_s2, eq_true c_s3])) dX1_bitOfRole_48
  refine lv_tableOut (tgt := 49) hx hb dX1_bitOfRole_1 (sw123 c_s1 c_s2 c_s3) (by decide) ?_
  refine lv_iconst (v := 0) hx hb dX1_bitOfRole_49 (by decide) ?_
  exact rd_iret hx hb hr hlocks (by (first | rfl | (simp only [yBr, bI, c_s1, c_s2, c_s3, eq_self, ↓reduceIte]; done) | (simp only [yBr, bI, c_s1, c_s2, c_s3, eq_self, ↓reduceIte]; rfl) | simp [yBr, bI, c_s1, c_s2, c_s3])) dX1_bitOfRole_50

set_option maxHeartbeats 2000000 in
set_option maxRecDepth 100000 in
theorem c_X1_claimedBits (l : Launch) (D : va_G) (cI cZ cJ : ClassId) (k : Int32) (r : Int32)  : Rd l D cI cZ cJ yX1_claimedBits wsX1_claimedBits 2 41 [.int k, .int r] [] (yCb k r) := by
  refine rd_of (by decide) rfl (Nat.le_of_ble_eq_true rfl) (fun p e s m below meth c ls hx hb hr hml hts hown hlocks hP hK hN hl => ?_)
  have hl : lv_has ls 2 [(0, .int k), (1, .int r)] := hl
  refine lv_iload_n hx hb dX1_claimedBits_0 rfl (lv_at hl 0 rfl) ?_
  by_cases c_s2 : k = 2
  · refine lv_lookup (off := 27) (tgt := 28) hx hb dX1_claimedBits_1 (by decide) (by rw [c_s2]; rfl) (by decide) ?_
    refine lv_iload_n hx hb dX1_claimedBits_28 rfl (lv_at hl 1 rfl) ?_
    refine lv_iconst (v := 2) hx hb dX1_claimedBits_29 (by decide) ?_
    refine rd_S (As := [.int r, .int 2]) (rest := []) ⟨hx, hb, hml, hown, hts⟩ (c_X1_bitOfRole l D cI cZ cJ r 2) (va_cwS 2 hts gX1_claimedBits_X1_bitOfRole rfl rfl rfl (by decide +kernel) ⟨Nat.le_of_ble_eq_true rfl, Nat.le_of_ble_eq_true rfl⟩) (hP.sub (ws' := []) [] rfl) hK hN rfl hl.1 rfl (Nat.le_of_ble_eq_true rfl) dX1_claimedBits_30 ⟨Nat.le_of_ble_eq_true rfl, Nat.le_of_ble_eq_true rfl⟩ ?_
    exact rd_iret hx hb hr hlocks (by (first | rfl | (simp only [yCb, bI, eq_true c_s2, eq_self, ↓reduceIte]; done) | (simp only [yCb, bI, eq_true c_s2, eq_self, ↓reduceIte]; rfl) | simp [yCb, bI, eq_true c_s2])) dX1_claimedBits_33
  by_cases c_s3 : k = 3
  · refine lv_lookup (off := 33) (tgt := 34) hx hb dX1_claimedBits_1 (by decide) (by rw [c_s3]; rfl) (by decide) ?_
    refine lv_iload_n hx hb dX1_claimedBits_34 rfl (lv_at hl 1 rfl) ?_
    refine lv_iconst (v := 3) hx hb dX1_claimedBits_35 (by decide) ?_
    refine rd_S (As := [.int r, .int 3]) (rest := []) ⟨hx, hb, hml, hown, hts⟩ (c_X1_bitOfRole l D cI cZ cJ r 3) (va_cwS 2 hts gX1_claimedBits_X1_bitOfRole rfl rfl rfl (by decide +kernel) ⟨Nat.le_of_ble_eq_true rfl, Nat.le_of_ble_eq_true rfl⟩) (hP.sub (ws' := []) [] rfl) hK hN rfl hl.1 rfl (Nat.le_of_ble_eq_true rfl) dX1_claimedBits_36 ⟨Nat.le_of_ble_eq_true rfl, Nat.le_of_ble_eq_true rfl⟩ ?_
    exact rd_iret hx hb hr hlocks (by (first | rfl | (simp only [yCb, bI, c_s2, eq_true c_s3, eq_self, ↓reduceIte]; done) | (simp only [yCb, bI, c_s2, eq_true c_s3, eq_self, ↓reduceIte]; rfl) | simp [yCb, bI, c_s2, eq_true c_s3])) dX1_claimedBits_39
  refine lv_lookup (off := 39) (tgt := 40) hx hb dX1_claimedBits_1 (by decide) (by show Op.lookupswitch.offset [(2, 27), (3, 33)] 39 k.toInt = 39; exact (lv_osw (d := 39) (r := [(3, 33)]) (o := 27) c_s2 rfl).trans (lv_osw (d := 39) (r := []) (o := 33) c_s3 rfl)) (by decide) ?_
  refine lv_iload_n hx hb dX1_claimedBits_40 rfl (lv_at hl 1 rfl) ?_
  refine lv_iconst (v := 1) hx hb dX1_claimedBits_41 (by decide) ?_
  refine rd_S (As := [.int r, .int 1]) (rest := []) ⟨hx, hb, hml, hown, hts⟩ (c_X1_bitOfRole l D cI cZ cJ r 1) (va_cwS 2 hts gX1_claimedBits_X1_bitOfRole rfl rfl rfl (by decide +kernel) ⟨Nat.le_of_ble_eq_true rfl, Nat.le_of_ble_eq_true rfl⟩) (hP.sub (ws' := []) [] rfl) hK hN rfl hl.1 rfl (Nat.le_of_ble_eq_true rfl) dX1_claimedBits_42 ⟨Nat.le_of_ble_eq_true rfl, Nat.le_of_ble_eq_true rfl⟩ ?_
  exact rd_iret hx hb hr hlocks (by (first | rfl | (simp only [yCb, bI, c_s2, c_s3, eq_self, ↓reduceIte]; done) | (simp only [yCb, bI, c_s2, c_s3, eq_self, ↓reduceIte]; rfl) | simp [yCb, bI, c_s2, c_s3])) dX1_claimedBits_45

set_option maxHeartbeats 2000000 in
set_option maxRecDepth 100000 in
theorem c_X1_isHonestIn (l : Launch) (D : va_G) (cI cZ cJ : ClassId) (pl : Int32) (wi : Int32) (q : Int32)  : Rd l D cI cZ cJ yX1_isHonestIn wsX1_isHonestIn 1 20 [.int pl, .int wi, .int q] [] (bI (yHo pl wi q)) := by
  refine rd_of (by decide) rfl (Nat.le_of_ble_eq_true rfl) (fun p e s m below meth c ls hx hb hr hml hts hown hlocks hP hK hN hl => ?_)
  have hl : lv_has ls 3 [(0, .int pl), (1, .int wi), (2, .int q)] := hl
  refine lv_iload_n hx hb dX1_isHonestIn_0 rfl (lv_at hl 2 rfl) ?_
  refine lv_if_lt (tgt := 22) hx hb dX1_isHonestIn_1 (by decide) (fun c_1 => ?_) (fun c_1 => ?_)
  · refine lv_iconst (v := 0) hx hb dX1_isHonestIn_22 (by decide) ?_
    exact rd_zret hx hb hr hlocks (by (first | rfl | (simp only [yHo, bI, c_1, eq_self, ↓reduceIte]; done) | (simp only [yHo, bI, c_1, eq_self, ↓reduceIte]; rfl) | simp [yHo, bI, c_1])) rfl dX1_isHonestIn_23
  · refine lv_iload_n hx hb dX1_isHonestIn_4 rfl (lv_at hl 2 rfl) ?_
    refine lv_iload_n hx hb dX1_isHonestIn_5 rfl (lv_at hl 0 rfl) ?_
    refine lv_icmp_ge (tgt := 22) hx hb dX1_isHonestIn_6 (by decide) (fun c_2 => ?_) (fun c_2 => ?_)
    · refine lv_iconst (v := 0) hx hb dX1_isHonestIn_22 (by decide) ?_
      exact rd_zret hx hb hr hlocks (by (first | rfl | (simp only [yHo, bI, c_1, c_2, eq_self, ↓reduceIte]; done) | (simp only [yHo, bI, c_1, c_2, eq_self, ↓reduceIte]; rfl) | simp [yHo, bI, c_1, c_2])) rfl dX1_isHonestIn_23
    · refine lv_iload_n hx hb dX1_isHonestIn_9 rfl (lv_at hl 1 rfl) ?_
      refine lv_iload_n hx hb dX1_isHonestIn_10 rfl (lv_at hl 2 rfl) ?_
      refine rd_S (As := [.int q]) (rest := [.int wi]) ⟨hx, hb, hml, hown, hts⟩ (c_X1_setOf l D cI cZ cJ q) (va_cwS 1 hts gX1_isHonestIn_X1_setOf rfl rfl rfl (by decide +kernel) ⟨Nat.le_of_ble_eq_true rfl, Nat.le_of_ble_eq_true rfl⟩) (hP.sub (ws' := []) [] rfl) hK hN rfl hl.1 rfl (Nat.le_of_ble_eq_true rfl) dX1_isHonestIn_11 ⟨Nat.le_of_ble_eq_true rfl, Nat.le_of_ble_eq_true rfl⟩ ?_
      refine lv_iand hx hb dX1_isHonestIn_14 ?_
      refine lv_if_ne (tgt := 22) hx hb dX1_isHonestIn_15 (by decide) (fun c_3 => ?_) (fun c_3 => ?_)
      · refine lv_iconst (v := 0) hx hb dX1_isHonestIn_22 (by decide) ?_
        exact rd_zret hx hb hr hlocks (by (first | rfl | (simp only [yHo, bI, c_1, c_2, c_3, eq_self, ↓reduceIte]; done) | (simp only [yHo, bI, c_1, c_2, c_3, eq_self, ↓reduceIte]; rfl) | simp [yHo, bI, c_1, c_2, c_3])) rfl dX1_isHonestIn_23
      · refine lv_iconst (v := 1) hx hb dX1_isHonestIn_18 (by decide) ?_
        refine lv_goto (tgt := 23) hx hb dX1_isHonestIn_19 (by decide) ?_
        exact rd_zret hx hb hr hlocks (by (first | rfl | (simp only [yHo, bI, c_1, c_2, c_3, eq_self, ↓reduceIte]; done) | (simp only [yHo, bI, c_1, c_2, c_3, eq_self, ↓reduceIte]; rfl) | (simp only [yHo, bI, c_1, c_2, eq_true c_3, eq_self, ↓reduceIte]; done) | (simp only [yHo, bI, c_1, c_2, eq_true c_3, eq_self, ↓reduceIte]; rfl) | (simp [yHo, bI, c_1, c_2, eq_true c_3]; done) | simp [yHo, bI, c_1, c_2, c_3])) rfl dX1_isHonestIn_23
end
section
set_option maxHeartbeats 2000000 in
set_option maxRecDepth 100000 in
theorem c_X1_isDeal (l : Launch) (D : va_G) (cI cZ cJ : ClassId) (pl : Int32) (wi : Int32) (se : Int32) (gu : Int32)  : Rd l D cI cZ cJ yX1_isDeal wsX1_isDeal 2 42 [.int pl, .int wi, .int se, .int gu] [] (bI (yGood pl wi se gu)) := by
  refine rd_of (by decide) rfl (Nat.le_of_ble_eq_true rfl) (fun p e s m below meth c ls hx hb hr hml hts hown hlocks hP hK hN hl => ?_)
  have hl : lv_has ls 4 [(0, .int pl), (1, .int wi), (2, .int se), (3, .int gu)] := hl
  refine lv_iload_n hx hb dX1_isDeal_0 rfl (lv_at hl 0 rfl) ?_
  refine lv_iconst (v := 4) hx hb dX1_isDeal_1 (by decide) ?_
  refine lv_icmp_lt (tgt := 63) hx hb dX1_isDeal_2 (by decide) (fun c_1 => ?_) (fun c_1 => ?_)
  · refine lv_iconst (v := 0) hx hb dX1_isDeal_63 (by decide) ?_
    exact rd_zret hx hb hr hlocks (by (first | rfl | (simp only [yGood, bI, c_1, eq_self, ↓reduceIte]; done) | (simp only [yGood, bI, c_1, eq_self, ↓reduceIte]; rfl) | simp [yGood, bI, c_1])) rfl dX1_isDeal_64
  · refine lv_iload_n hx hb dX1_isDeal_5 rfl (lv_at hl 0 rfl) ?_
    refine lv_bipush (v := 8) hx hb dX1_isDeal_6 (by decide) ?_
    refine lv_icmp_gt (tgt := 63) hx hb dX1_isDeal_8 (by decide) (fun c_2 => ?_) (fun c_2 => ?_)
    · refine lv_iconst (v := 0) hx hb dX1_isDeal_63 (by decide) ?_
      exact rd_zret hx hb hr hlocks (by (first | rfl | (simp only [yGood, bI, c_1, c_2, eq_self, ↓reduceIte]; done) | (simp only [yGood, bI, c_1, c_2, eq_self, ↓reduceIte]; rfl) | simp [yGood, bI, c_1, c_2])) rfl dX1_isDeal_64
    · refine lv_iload_n hx hb dX1_isDeal_11 rfl (lv_at hl 1 rfl) ?_
      refine lv_iload_n hx hb dX1_isDeal_12 rfl (lv_at hl 0 rfl) ?_
      refine rd_S (As := [.int pl]) (rest := [.int wi]) ⟨hx, hb, hml, hown, hts⟩ (c_X1_everyone l D cI cZ cJ pl) (va_cwS 1 hts gX1_isDeal_X1_everyone rfl rfl rfl (by decide +kernel) ⟨Nat.le_of_ble_eq_true rfl, Nat.le_of_ble_eq_true rfl⟩) (hP.sub (ws' := []) [] rfl) hK hN rfl hl.1 rfl (Nat.le_of_ble_eq_true rfl) dX1_isDeal_13 ⟨Nat.le_of_ble_eq_true rfl, Nat.le_of_ble_eq_true rfl⟩ ?_
      refine lv_iconst (v := (-1)) hx hb dX1_isDeal_16 (by decide) ?_
      refine lv_ixor hx hb dX1_isDeal_17 ?_
      refine lv_iand hx hb dX1_isDeal_18 ?_
      refine lv_if_ne (tgt := 63) hx hb dX1_isDeal_19 (by decide) (fun c_3 => ?_) (fun c_3 => ?_)
      · refine lv_iconst (v := 0) hx hb dX1_isDeal_63 (by decide) ?_
        exact rd_zret hx hb hr hlocks (by (first | rfl | (simp only [yGood, bI, c_1, c_2, c_3, eq_self, ↓reduceIte]; done) | (simp only [yGood, bI, c_1, c_2, c_3, eq_self, ↓reduceIte]; rfl) | simp [yGood, bI, c_1, c_2, c_3])) rfl dX1_isDeal_64
      · refine lv_iload_n hx hb dX1_isDeal_22 rfl (lv_at hl 1 rfl) ?_
        refine lv_if_eq (tgt := 63) hx hb dX1_isDeal_23 (by decide) (fun c_4 => ?_) (fun c_4 => ?_)
        · refine lv_iconst (v := 0) hx hb dX1_isDeal_63 (by decide) ?_
          exact rd_zret hx hb hr hlocks (by (first | rfl | (simp only [yGood, bI, c_1, c_2, c_3, eq_true c_4, eq_self, ↓reduceIte]; done) | (simp only [yGood, bI, c_1, c_2, c_3, eq_true c_4, eq_self, ↓reduceIte]; rfl) | (simp only [yGood, bI, c_1, c_2, eq_true c_3, eq_true c_4, eq_self, ↓reduceIte]; done) | (simp only [yGood, bI, c_1, c_2, eq_true c_3, eq_true c_4, eq_self, ↓reduceIte]; rfl) | (simp [yGood, bI, c_1, c_2, eq_true c_3, eq_true c_4]; done) | simp [yGood, bI, c_1, c_2, c_3, eq_true c_4])) rfl dX1_isDeal_64
        · refine lv_iconst (v := 2) hx hb dX1_isDeal_26 (by decide) ?_
          refine lv_iload_n hx hb dX1_isDeal_27 rfl (lv_at hl 1 rfl) ?_
          refine rd_S (As := [.int wi]) (rest := [.int 2]) ⟨hx, hb, hml, hown, hts⟩ (c_J6_bitCount_0f7a4 l D cI cZ cJ wi) (va_cwS 1 hts gX1_isDeal_J6_bitCount_0f7a4 rfl rfl rfl (by decide +kernel) ⟨Nat.le_of_ble_eq_true rfl, Nat.le_of_ble_eq_true rfl⟩) (hP.sub (ws' := []) [] rfl) hK hN rfl hl.1 rfl (Nat.le_of_ble_eq_true rfl) dX1_isDeal_28 ⟨Nat.le_of_ble_eq_true rfl, Nat.le_of_ble_eq_true rfl⟩ ?_
          refine lv_imul hx hb dX1_isDeal_31 ?_
          refine lv_iload_n hx hb dX1_isDeal_32 rfl (lv_at hl 0 rfl) ?_
          refine lv_icmp_ge (tgt := 63) hx hb dX1_isDeal_33 (by decide) (fun c_5 => ?_) (fun c_5 => ?_)
          · refine lv_iconst (v := 0) hx hb dX1_isDeal_63 (by decide) ?_
            exact rd_zret hx hb hr hlocks (by (first | rfl | (simp only [yGood, bI, c_1, c_2, c_3, c_4, c_5, eq_self, ↓reduceIte]; done) | (simp only [yGood, bI, c_1, c_2, c_3, c_4, c_5, eq_self, ↓reduceIte]; rfl) | (simp only [yGood, bI, c_1, c_2, eq_true c_3, c_4, c_5, eq_self, ↓reduceIte]; done) | (simp only [yGood, bI, c_1, c_2, eq_true c_3, c_4, c_5, eq_self, ↓reduceIte]; rfl) | (simp [yGood, bI, c_1, c_2, eq_true c_3, c_4, c_5]; done) | simp [yGood, bI, c_1, c_2, c_3, c_4, c_5])) rfl dX1_isDeal_64
          · refine lv_iload_n hx hb dX1_isDeal_36 rfl (lv_at hl 0 rfl) ?_
            refine lv_iload_n hx hb dX1_isDeal_37 rfl (lv_at hl 1 rfl) ?_
            refine lv_iload_n hx hb dX1_isDeal_38 rfl (lv_at hl 2 rfl) ?_
            refine rd_S (As := [.int pl, .int wi, .int se]) (rest := []) ⟨hx, hb, hml, hown, hts⟩ (c_X1_isHonestIn l D cI cZ cJ pl wi se) (va_cwS 3 hts gX1_isDeal_X1_isHonestIn rfl rfl rfl (by decide +kernel) ⟨Nat.le_of_ble_eq_true rfl, Nat.le_of_ble_eq_true rfl⟩) (hP.sub (ws' := []) [] rfl) hK hN rfl hl.1 rfl (Nat.le_of_ble_eq_true rfl) dX1_isDeal_39 ⟨Nat.le_of_ble_eq_true rfl, Nat.le_of_ble_eq_true rfl⟩ ?_
            refine lv_if_eq (tgt := 63) hx hb dX1_isDeal_42 (by decide) (fun c_6 => ?_) (fun c_6 => ?_)
            · have c_6 : (yHo pl wi se) = false := bI_0 c_6
              refine lv_iconst (v := 0) hx hb dX1_isDeal_63 (by decide) ?_
              exact rd_zret hx hb hr hlocks (by (first | rfl | (simp only [yGood, bI, c_1, c_2, c_3, c_4, c_5, c_6, eq_self, ↓reduceIte]; done) | (simp only [yGood, bI, c_1, c_2, c_3, c_4, c_5, c_6, eq_self, ↓reduceIte]; rfl) | (simp only [yGood, bI, c_1, c_2, eq_true c_3, c_4, c_5, c_6, eq_self, ↓reduceIte]; done) | (simp only [yGood, bI, c_1, c_2, eq_true c_3, c_4, c_5, c_6, eq_self, ↓reduceIte]; rfl) | (simp [yGood, bI, c_1, c_2, eq_true c_3, c_4, c_5, c_6]; done) | simp [yGood, bI, c_1, c_2, c_3, c_4, c_5, c_6])) rfl dX1_isDeal_64
            · have c_6 : (yHo pl wi se) = true := bI_1 c_6
              refine lv_iload_n hx hb dX1_isDeal_45 rfl (lv_at hl 0 rfl) ?_
              refine lv_iload_n hx hb dX1_isDeal_46 rfl (lv_at hl 1 rfl) ?_
              refine lv_iload_n hx hb dX1_isDeal_47 rfl (lv_at hl 3 rfl) ?_
              refine rd_S (As := [.int pl, .int wi, .int gu]) (rest := []) ⟨hx, hb, hml, hown, hts⟩ (c_X1_isHonestIn l D cI cZ cJ pl wi gu) (va_cwS 3 hts gX1_isDeal_X1_isHonestIn rfl rfl rfl (by decide +kernel) ⟨Nat.le_of_ble_eq_true rfl, Nat.le_of_ble_eq_true rfl⟩) (hP.sub (ws' := []) [] rfl) hK hN rfl hl.1 rfl (Nat.le_of_ble_eq_true rfl) dX1_isDeal_48 ⟨Nat.le_of_ble_eq_true rfl, Nat.le_of_ble_eq_true rfl⟩ ?_
              refine lv_if_eq (tgt := 63) hx hb dX1_isDeal_51 (by decide) (fun c_7 => ?_) (fun c_7 => ?_)
              · have c_7 : (yHo pl wi gu) = false := bI_0 c_7
                refine lv_iconst (v := 0) hx hb dX1_isDeal_63 (by decide) ?_
                exact rd_zret hx hb hr hlocks (by (first | rfl | (simp only [yGood, bI, c_1, c_2, c_3, c_4, c_5, c_6, c_7, eq_self, ↓reduceIte]; done) | (simp only [yGood, bI, c_1, c_2, c_3, c_4, c_5, c_6, c_7, eq_self, ↓reduceIte]; rfl) | (simp only [yGood, bI, c_1, c_2, eq_true c_3, c_4, c_5, c_6, c_7, eq_self, ↓reduceIte]; done) | (simp only [yGood, bI, c_1, c_2, eq_true c_3, c_4, c_5, c_6, c_7, eq_self, ↓reduceIte]; rfl) | (simp [yGood, bI, c_1, c_2, eq_true c_3, c_4, c_5, c_6, c_7]; done) | simp [yGood, bI, c_1, c_2, c_3, c_4, c_5, c_6, c_7])) rfl dX1_isDeal_64
              · have c_7 : (yHo pl wi gu) = true := bI_1 c_7
                refine lv_iload_n hx hb dX1_isDeal_54 rfl (lv_at hl 2 rfl) ?_
                refine lv_iload_n hx hb dX1_isDeal_55 rfl (lv_at hl 3 rfl) ?_
                refine lv_icmp_eq (tgt := 63) hx hb dX1_isDeal_56 (by decide) (fun c_8 => ?_) (fun c_8 => ?_)
                · refine lv_iconst (v := 0) hx hb dX1_isDeal_63 (by decide) ?_
                  exact rd_zret hx hb hr hlocks (by (first | rfl | (simp only [yGood, bI, c_1, c_2, c_3, c_4, c_5, c_6, c_7, eq_true c_8, eq_self, ↓reduceIte]; done) | (simp only [yGood, bI, c_1, c_2, c_3, c_4, c_5, c_6, c_7, eq_true c_8, eq_self, ↓reduceIte]; rfl) | (simp only [yGood, bI, c_1, c_2, eq_true c_3, c_4, c_5, c_6, c_7, eq_true c_8, eq_self, ↓reduceIte]; done) | (simp only [yGood, bI, c_1, c_2, eq_true c_3, c_4, c_5, c_6, c_7, eq_true c_8, eq_self, ↓reduceIte]; rfl) | (simp [yGood, bI, c_1, c_2, eq_true c_3, c_4, c_5, c_6, c_7, eq_true c_8]; done) | simp [yGood, bI, c_1, c_2, c_3, c_4, c_5, c_6, c_7, eq_true c_8])) rfl dX1_isDeal_64
                · refine lv_iconst (v := 1) hx hb dX1_isDeal_59 (by decide) ?_
                  refine lv_goto (tgt := 64) hx hb dX1_isDeal_60 (by decide) ?_
                  exact rd_zret hx hb hr hlocks (by (first | rfl | (simp only [yGood, bI, c_1, c_2, c_3, c_4, c_5, c_6, c_7, c_8, eq_self, ↓reduceIte]; done) | (simp only [yGood, bI, c_1, c_2, c_3, c_4, c_5, c_6, c_7, c_8, eq_self, ↓reduceIte]; rfl) | (simp only [yGood, bI, c_1, c_2, eq_true c_3, c_4, c_5, c_6, c_7, c_8, eq_self, ↓reduceIte]; done) | (simp only [yGood, bI, c_1, c_2, eq_true c_3, c_4, c_5, c_6, c_7, c_8, eq_self, ↓reduceIte]; rfl) | (simp [yGood, bI, c_1, c_2, eq_true c_3, c_4, c_5, c_6, c_7, c_8]; done) | simp [yGood, bI, c_1, c_2, c_3, c_4, c_5, c_6, c_7, c_8])) rfl dX1_isDeal_64

theorem in_X1_phase_X1 : ∀ w ∈ wsX10, w ∈ wsX1_phase := by decide +kernel
set_option maxHeartbeats 2000000 in
set_option maxRecDepth 100000 in
theorem c_X1_phase (l : Launch) (D : va_G) (cI cZ cJ : ClassId) (hT : Nat) (hB : Nat) (hV : Nat) (a : Nat → Int32)  : Rd l D cI cZ cJ yX1_phase wsX1_phase 0 0 [.ref hT] [cT hT hB hV a] (a 0) := by
  refine rd_of (by decide) rfl (Nat.le_of_ble_eq_true rfl) (fun p e s m below meth c ls hx hb hr hml hts hown hlocks hP hK hN hl => ?_)
  have hl : lv_has ls 1 [(0, .ref hT)] := hl
  refine lv_aload_n hx hb dX1_phase_0 rfl (lv_at hl 0 rfl) ?_
  refine va_get (D := D) (cl := vwCl) (ci := 1) (v := .int (a 0)) (C := RX1) (T := TX1) (N := 14) hx hb hts in_X1_phase_X1 hown hK hP 0 rfl rfl 2 (by decide) (hts (.fieldLink RX1 20 "WitchTrial" "phase" "I") (List.mem_of_getElem? (i := 1) rfl)) (fun _ h9 => h9) rfl dX1_phase_1 ?_
  exact rd_iret hx hb hr hlocks (by rfl) dX1_phase_4

theorem in_X1_isAlive_X1 : ∀ w ∈ wsX10, w ∈ wsX1_isAlive := by decide +kernel
set_option maxHeartbeats 2000000 in
set_option maxRecDepth 100000 in
theorem c_X1_isAlive (l : Launch) (D : va_G) (cI cZ cJ : ClassId) (hT : Nat) (hB : Nat) (hV : Nat) (a : Nat → Int32) (q : Int32)  : Rd l D cI cZ cJ yX1_isAlive wsX1_isAlive 1 20 [.ref hT, .int q] [cT hT hB hV a] (bI (yIn (a 6) q)) := by
  refine rd_of (by decide) rfl (Nat.le_of_ble_eq_true rfl) (fun p e s m below meth c ls hx hb hr hml hts hown hlocks hP hK hN hl => ?_)
  have hl : lv_has ls 2 [(0, .ref hT), (1, .int q)] := hl
  refine lv_aload_n hx hb dX1_isAlive_0 rfl (lv_at hl 0 rfl) ?_
  refine va_get (D := D) (cl := vwCl) (ci := 1) (v := .int (a 6)) (C := RX1) (T := TX1) (N := 14) hx hb hts in_X1_isAlive_X1 hown hK hP 0 rfl rfl 8 (by decide) (hts (.fieldLink RX1 63 "WitchTrial" "aliveSet" "I") (List.mem_of_getElem? (i := 1) rfl)) (fun _ h9 => h9) rfl dX1_isAlive_1 ?_
  refine lv_iload_n hx hb dX1_isAlive_4 rfl (lv_at hl 1 rfl) ?_
  refine rd_S (As := [.int q]) (rest := [.int (a 6)]) ⟨hx, hb, hml, hown, hts⟩ (c_X1_setOf l D cI cZ cJ q) (va_cwS 1 hts gX1_isAlive_X1_setOf rfl rfl rfl (by decide +kernel) ⟨Nat.le_of_ble_eq_true rfl, Nat.le_of_ble_eq_true rfl⟩) (hP.sub (ws' := []) [] rfl) hK hN rfl hl.1 rfl (Nat.le_of_ble_eq_true rfl) dX1_isAlive_5 ⟨Nat.le_of_ble_eq_true rfl, Nat.le_of_ble_eq_true rfl⟩ ?_
  refine lv_iand hx hb dX1_isAlive_8 ?_
  refine lv_if_eq (tgt := 16) hx hb dX1_isAlive_9 (by decide) (fun c_1 => ?_) (fun c_1 => ?_)
  · refine lv_iconst (v := 0) hx hb dX1_isAlive_16 (by decide) ?_
    exact rd_zret hx hb hr hlocks (by (first | rfl | (simp only [yIn, bI, c_1, eq_self, ↓reduceIte]; done) | (simp only [yIn, bI, c_1, eq_self, ↓reduceIte]; rfl) | (simp only [yIn, bI, eq_true c_1, eq_self, ↓reduceIte]; done) | (simp only [yIn, bI, eq_true c_1, eq_self, ↓reduceIte]; rfl) | (simp [yIn, bI, eq_true c_1]; done) | simp [yIn, bI, c_1])) rfl dX1_isAlive_17
  · refine lv_iconst (v := 1) hx hb dX1_isAlive_12 (by decide) ?_
    refine lv_goto (tgt := 17) hx hb dX1_isAlive_13 (by decide) ?_
    exact rd_zret hx hb hr hlocks (by (first | rfl | (simp only [yIn, bI, c_1, eq_self, ↓reduceIte]; done) | (simp only [yIn, bI, c_1, eq_self, ↓reduceIte]; rfl) | simp [yIn, bI, c_1])) rfl dX1_isAlive_17

theorem in_X1_isWitch_X1 : ∀ w ∈ wsX10, w ∈ wsX1_isWitch := by decide +kernel
set_option maxHeartbeats 2000000 in
set_option maxRecDepth 100000 in
theorem c_X1_isWitch (l : Launch) (D : va_G) (cI cZ cJ : ClassId) (hT : Nat) (hB : Nat) (hV : Nat) (a : Nat → Int32) (q : Int32)  : Rd l D cI cZ cJ yX1_isWitch wsX1_isWitch 1 20 [.ref hT, .int q] [cT hT hB hV a] (bI (yIn (a 3) q)) := by
  refine rd_of (by decide) rfl (Nat.le_of_ble_eq_true rfl) (fun p e s m below meth c ls hx hb hr hml hts hown hlocks hP hK hN hl => ?_)
  have hl : lv_has ls 2 [(0, .ref hT), (1, .int q)] := hl
  refine lv_aload_n hx hb dX1_isWitch_0 rfl (lv_at hl 0 rfl) ?_
  refine va_get (D := D) (cl := vwCl) (ci := 1) (v := .int (a 3)) (C := RX1) (T := TX1) (N := 14) hx hb hts in_X1_isWitch_X1 hown hK hP 0 rfl rfl 5 (by decide) (hts (.fieldLink RX1 50 "WitchTrial" "witchSet" "I") (List.mem_of_getElem? (i := 1) rfl)) (fun _ h9 => h9) rfl dX1_isWitch_1 ?_
  refine lv_iload_n hx hb dX1_isWitch_4 rfl (lv_at hl 1 rfl) ?_
  refine rd_S (As := [.int q]) (rest := [.int (a 3)]) ⟨hx, hb, hml, hown, hts⟩ (c_X1_setOf l D cI cZ cJ q) (va_cwS 1 hts gX1_isWitch_X1_setOf rfl rfl rfl (by decide +kernel) ⟨Nat.le_of_ble_eq_true rfl, Nat.le_of_ble_eq_true rfl⟩) (hP.sub (ws' := []) [] rfl) hK hN rfl hl.1 rfl (Nat.le_of_ble_eq_true rfl) dX1_isWitch_5 ⟨Nat.le_of_ble_eq_true rfl, Nat.le_of_ble_eq_true rfl⟩ ?_
  refine lv_iand hx hb dX1_isWitch_8 ?_
  refine lv_if_eq (tgt := 16) hx hb dX1_isWitch_9 (by decide) (fun c_1 => ?_) (fun c_1 => ?_)
  · refine lv_iconst (v := 0) hx hb dX1_isWitch_16 (by decide) ?_
    exact rd_zret hx hb hr hlocks (by (first | rfl | (simp only [yIn, bI, c_1, eq_self, ↓reduceIte]; done) | (simp only [yIn, bI, c_1, eq_self, ↓reduceIte]; rfl) | (simp only [yIn, bI, eq_true c_1, eq_self, ↓reduceIte]; done) | (simp only [yIn, bI, eq_true c_1, eq_self, ↓reduceIte]; rfl) | (simp [yIn, bI, eq_true c_1]; done) | simp [yIn, bI, c_1])) rfl dX1_isWitch_17
  · refine lv_iconst (v := 1) hx hb dX1_isWitch_12 (by decide) ?_
    refine lv_goto (tgt := 17) hx hb dX1_isWitch_13 (by decide) ?_
    exact rd_zret hx hb hr hlocks (by (first | rfl | (simp only [yIn, bI, c_1, eq_self, ↓reduceIte]; done) | (simp only [yIn, bI, c_1, eq_self, ↓reduceIte]; rfl) | simp [yIn, bI, c_1])) rfl dX1_isWitch_17

theorem in_X1_knownBits_X1 : ∀ w ∈ wsX10, w ∈ wsX1_knownBits := by decide +kernel
set_option maxHeartbeats 2000000 in
set_option maxRecDepth 100000 in
theorem c_X1_knownBits (l : Launch) (D : va_G) (cI cZ cJ : ClassId) (hT : Nat) (hB : Nat) (hV : Nat) (a : Nat → Int32) (q : Int32)  : Rd l D cI cZ cJ yX1_knownBits wsX1_knownBits 2 41 [.ref hT, .int q] [cT hT hB hV a] (yKn a q) := by
  refine rd_of (by decide) rfl (Nat.le_of_ble_eq_true rfl) (fun p e s m below meth c ls hx hb hr hml hts hown hlocks hP hK hN hl => ?_)
  have hl : lv_has ls 3 [(0, .ref hT), (1, .int q)] := hl
  refine lv_aload_n hx hb dX1_knownBits_0 rfl (lv_at hl 0 rfl) ?_
  refine va_get (D := D) (cl := vwCl) (ci := 1) (v := .int (a 2)) (C := RX1) (T := TX1) (N := 14) hx hb hts in_X1_knownBits_X1 hown hK hP 0 rfl rfl 4 (by decide) (hts (.fieldLink RX1 47 "WitchTrial" "playerCount" "I") (List.mem_of_getElem? (i := 1) rfl)) (fun _ h9 => h9) rfl dX1_knownBits_1 ?_
  refine rd_S (As := [.int (a 2)]) (rest := []) ⟨hx, hb, hml, hown, hts⟩ (c_X1_everyone l D cI cZ cJ (a 2)) (va_cwS 1 hts gX1_knownBits_X1_everyone rfl rfl rfl (by decide +kernel) ⟨Nat.le_of_ble_eq_true rfl, Nat.le_of_ble_eq_true rfl⟩) (hP.sub (ws' := []) [] rfl) hK hN rfl hl.1 rfl (Nat.le_of_ble_eq_true rfl) dX1_knownBits_4 ⟨Nat.le_of_ble_eq_true rfl, Nat.le_of_ble_eq_true rfl⟩ ?_
  refine lv_aload_n hx hb dX1_knownBits_7 rfl (lv_at hl 0 rfl) ?_
  refine va_get (D := D) (cl := vwCl) (ci := 1) (v := .int (a 6)) (C := RX1) (T := TX1) (N := 14) hx hb hts in_X1_knownBits_X1 hown hK hP 0 rfl rfl 8 (by decide) (hts (.fieldLink RX1 63 "WitchTrial" "aliveSet" "I") (List.mem_of_getElem? (i := 2) rfl)) (fun _ h9 => h9) rfl dX1_knownBits_8 ?_
  refine lv_iconst (v := (-1)) hx hb dX1_knownBits_11 (by decide) ?_
  refine lv_ixor hx hb dX1_knownBits_12 ?_
  refine lv_iand hx hb dX1_knownBits_13 ?_
  refine rd_S (As := [.int ((xAll (a 2)) &&& ((a 6) ^^^ (-1)))]) (rest := []) ⟨hx, hb, hml, hown, hts⟩ (c_X1_roleBits l D cI cZ cJ ((xAll (a 2)) &&& ((a 6) ^^^ (-1)))) (va_cwS 1 hts gX1_knownBits_X1_roleBits rfl rfl rfl (by decide +kernel) ⟨Nat.le_of_ble_eq_true rfl, Nat.le_of_ble_eq_true rfl⟩) (hP.sub (ws' := []) [] rfl) hK hN rfl hl.1 rfl (Nat.le_of_ble_eq_true rfl) dX1_knownBits_14 ⟨Nat.le_of_ble_eq_true rfl, Nat.le_of_ble_eq_true rfl⟩ ?_
  refine lv_istore_n (lv' := [(2, .int (yRb ((xAll (a 2)) &&& ((a 6) ^^^ (-1))))), (0, .ref hT), (1, .int q)]) hx hb dX1_knownBits_17 rfl hl (by decide) rfl (fun ls hl => ?_)
  refine lv_iload_n hx hb dX1_knownBits_18 rfl (lv_at hl 2 rfl) ?_
  refine lv_iconst (v := (-1)) hx hb dX1_knownBits_19 (by decide) ?_
  refine lv_icmp_ne (tgt := 25) hx hb dX1_knownBits_20 (by decide) (fun c_1 => ?_) (fun c_1 => ?_)
  · refine lv_iload_n hx hb dX1_knownBits_25 rfl (lv_at hl 0 rfl) ?_
    refine lv_iload_n hx hb dX1_knownBits_26 rfl (lv_at hl 2 rfl) ?_
    refine rd_S (As := [.int q]) (rest := [.int (yRb ((xAll (a 2)) &&& ((a 6) ^^^ (-1))))]) ⟨hx, hb, hml, hown, hts⟩ (c_X1_setOf l D cI cZ cJ q) (va_cwS 1 hts gX1_knownBits_X1_setOf rfl rfl rfl (by decide +kernel) ⟨Nat.le_of_ble_eq_true rfl, Nat.le_of_ble_eq_true rfl⟩) (hP.sub (ws' := []) [] rfl) hK hN rfl hl.1 rfl (Nat.le_of_ble_eq_true rfl) dX1_knownBits_27 ⟨Nat.le_of_ble_eq_true rfl, Nat.le_of_ble_eq_true rfl⟩ ?_
    refine rd_S (As := [.int (yOf q)]) (rest := [.int (yRb ((xAll (a 2)) &&& ((a 6) ^^^ (-1))))]) ⟨hx, hb, hml, hown, hts⟩ (c_X1_roleBits l D cI cZ cJ (yOf q)) (va_cwS 1 hts gX1_knownBits_X1_roleBits rfl rfl rfl (by decide +kernel) ⟨Nat.le_of_ble_eq_true rfl, Nat.le_of_ble_eq_true rfl⟩) (hP.sub (ws' := []) [] rfl) hK hN rfl hl.1 rfl (Nat.le_of_ble_eq_true rfl) dX1_knownBits_30 ⟨Nat.le_of_ble_eq_true rfl, Nat.le_of_ble_eq_true rfl⟩ ?_
    refine lv_ior hx hb dX1_knownBits_33 ?_
    refine lv_istore_n (lv' := [(2, .int ((yRb ((xAll (a 2)) &&& ((a 6) ^^^ (-1)))) ||| (yRb (yOf q)))), (0, .ref hT), (1, .int q)]) hx hb dX1_knownBits_34 rfl hl (by decide) rfl (fun ls hl => ?_)
    refine lv_aload_n hx hb dX1_knownBits_35 rfl (lv_at hl 1 rfl) ?_
    refine lv_iload_n hx hb dX1_knownBits_36 rfl (lv_at hl 2 rfl) ?_
    refine rd_V (b := hT) (As := [.int q]) (rest := []) ⟨hx, hb, hml, hown, hts⟩ (c_X1_isWitch l D cI cZ cJ hT hB hV a q) (cwV 1 hts gX1_knownBits_X1_isWitch rfl rfl rfl (by decide +kernel) ⟨Nat.le_of_ble_eq_true rfl, Nat.le_of_ble_eq_true rfl⟩) (hP.sub (ws' := [cT hT hB hV a]) [0] rfl) hK hN (va_recv hK hP (ci := 1) (q0 := 0) rfl rfl) rfl hl.1 rfl (Nat.le_of_ble_eq_true rfl) dX1_knownBits_37 ⟨Nat.le_of_ble_eq_true rfl, Nat.le_of_ble_eq_true rfl⟩ ?_
    refine lv_if_eq (tgt := 49) hx hb dX1_knownBits_40 (by decide) (fun c_2 => ?_) (fun c_2 => ?_)
    · have c_2 : (yIn (a 3) q) = false := bI_0 c_2
      refine lv_iload_n hx hb dX1_knownBits_49 rfl (lv_at hl 2 rfl) ?_
      refine lv_aload_n hx hb dX1_knownBits_50 rfl (lv_at hl 1 rfl) ?_
      refine va_get (D := D) (cl := vwCl) (ci := 1) (v := .int (a 4)) (C := RX1) (T := TX1) (N := 14) hx hb hts in_X1_knownBits_X1 hown hK hP 0 rfl rfl 6 (by decide) (hts (.fieldLink RX1 53 "WitchTrial" "seerPlayer" "I") (List.mem_of_getElem? (i := 3) rfl)) (fun _ h9 => h9) rfl dX1_knownBits_51 ?_
      refine lv_icmp_ne (tgt := 66) hx hb dX1_knownBits_54 (by decide) (fun c_3 => ?_) (fun c_3 => ?_)
      · refine lv_iload_n hx hb dX1_knownBits_66 rfl (lv_at hl 0 rfl) ?_
        exact rd_iret hx hb hr hlocks (by (first | rfl | (simp only [yKn, yKd, bI, c_1, c_2, c_3, eq_self, ↓reduceIte]; done) | (simp only [yKn, yKd, bI, c_1, c_2, c_3, eq_self, ↓reduceIte]; rfl) | simp [yKn, yKd, bI, c_1, c_2, c_3])) dX1_knownBits_67
      · refine lv_iload_n hx hb dX1_knownBits_57 rfl (lv_at hl 0 rfl) ?_
        refine lv_aload_n hx hb dX1_knownBits_58 rfl (lv_at hl 1 rfl) ?_
        refine va_get (D := D) (cl := vwCl) (ci := 1) (v := .int (a 7)) (C := RX1) (T := TX1) (N := 14) hx hb hts in_X1_knownBits_X1 hown hK hP 0 rfl rfl 9 (by decide) (hts (.fieldLink RX1 66 "WitchTrial" "lookedAtSet" "I") (List.mem_of_getElem? (i := 4) rfl)) (fun _ h9 => h9) rfl dX1_knownBits_59 ?_
        refine lv_ior hx hb dX1_knownBits_62 ?_
        refine lv_goto (tgt := 67) hx hb dX1_knownBits_63 (by decide) ?_
        exact rd_iret hx hb hr hlocks (by (first | rfl | (simp only [yKn, yKd, bI, c_1, c_2, eq_true c_3, eq_self, ↓reduceIte]; done) | (simp only [yKn, yKd, bI, c_1, c_2, eq_true c_3, eq_self, ↓reduceIte]; rfl) | simp [yKn, yKd, bI, c_1, c_2, eq_true c_3])) dX1_knownBits_67
    · have c_2 : (yIn (a 3) q) = true := bI_1 c_2
      refine lv_iload_n hx hb dX1_knownBits_43 rfl (lv_at hl 0 rfl) ?_
      refine lv_sipush (v := 255) hx hb dX1_knownBits_44 (by decide) ?_
      refine lv_ior hx hb dX1_knownBits_47 ?_
      exact rd_iret hx hb hr hlocks (by (first | rfl | (simp only [yKn, yKd, bI, c_1, c_2, eq_self, ↓reduceIte]; done) | (simp only [yKn, yKd, bI, c_1, c_2, eq_self, ↓reduceIte]; rfl) | simp [yKn, yKd, bI, c_1, c_2])) dX1_knownBits_48
  · refine lv_iload_n hx hb dX1_knownBits_23 rfl (lv_at hl 0 rfl) ?_
    exact rd_iret hx hb hr hlocks (by (first | rfl | (simp only [yKn, yKd, bI, eq_true c_1, eq_self, ↓reduceIte]; done) | (simp only [yKn, yKd, bI, eq_true c_1, eq_self, ↓reduceIte]; rfl) | simp [yKn, yKd, bI, eq_true c_1])) dX1_knownBits_24

theorem in_X1_countVotes_X1 : ∀ w ∈ wsX10, w ∈ wsX1_countVotes := by decide +kernel
set_option maxHeartbeats 2000000 in
set_option maxRecDepth 100000 in
theorem c_X1_countVotes (l : Launch) (D : va_G) (cI cZ cJ : ClassId) (hT : Nat) (hB : Nat) (hV : Nat) (a : Nat → Int32) (v : Nat → Int32) (q : Int32)  : Rd l D cI cZ cJ yX1_countVotes wsX1_countVotes 0 0 [.ref hT, .int q] [cT hT hB hV a, cA cI hV 8 v] (xMv v q 8) := by
  refine rd_of (by decide) rfl (Nat.le_of_ble_eq_true rfl) (fun p e s m below meth c ls hx hb hr hml hts hown hlocks hP hK hN hl => ?_)
  have hl : lv_has ls 7 [(0, .ref hT), (1, .int q)] := hl
  refine lv_iconst (v := 0) hx hb dX1_countVotes_0 (by decide) ?_
  refine lv_istore_n (lv' := [(2, .int 0), (0, .ref hT), (1, .int q)]) hx hb dX1_countVotes_1 rfl hl (by decide) rfl (fun ls hl => ?_)
  refine lv_aload_n hx hb dX1_countVotes_2 rfl (lv_at hl 1 rfl) ?_
  refine va_get (D := D) (cl := vwCl) (ci := 1) (v := .ref hV) (C := RX1) (T := TX1) (N := 14) hx hb hts in_X1_countVotes_X1 hown hK hP 0 rfl rfl 1 (by decide) (hts (.fieldLink RX1 16 "WitchTrial" "voteOf" "[I") (List.mem_of_getElem? (i := 1) rfl)) (fun _ h9 => h9) rfl dX1_countVotes_3 ?_
  refine lv_astore_n (lv' := [(3, .ref hV), (2, .int 0), (0, .ref hT), (1, .int q)]) hx hb dX1_countVotes_6 rfl hl (by decide) rfl (fun ls hl => ?_)
  refine lv_aload_n hx hb dX1_countVotes_7 rfl (lv_at hl 0 rfl) ?_
  refine va_alen (D := D) (cl := vwCl) hx hb hK hP 1 0 rfl rfl (v := 8) rfl dX1_countVotes_8 ?_
  refine lv_istore (lv' := [(4, .int 8), (3, .ref hV), (2, .int 0), (0, .ref hT), (1, .int q)]) hx hb dX1_countVotes_9 hl (by decide) rfl (fun ls hl => ?_)
  refine lv_iconst (v := 0) hx hb dX1_countVotes_11 (by decide) ?_
  refine lv_istore (lv' := [(5, .int 0), (4, .int 8), (3, .ref hV), (2, .int 0), (0, .ref hT), (1, .int q)]) hx hb dX1_countVotes_12 hl (by decide) rfl (fun ls hl => ?_)
  refine loop_R (nL := 7) (h := 14) 8 (fun i => [(0, .ref hT), (1, .int q), (2, .int (xMv v q i)), (3, .ref hV), (4, .int 8), (5, .int (nI i))]) (fun _ => True) (fun i hi hI ih_i ls hl => ?_) 0 (by omega) trivial ls ?_
  · have hl : lv_has ls 7 [(0, .ref hT), (1, .int q), (2, .int (xMv v q i)), (3, .ref hV), (4, .int 8), (5, .int (nI i))] := hl
    refine lv_iload hx hb dX1_countVotes_14 (lv_at hl 5 rfl) ?_
    refine lv_iload hx hb dX1_countVotes_16 (lv_at hl 4 rfl) ?_
    refine lv_icmp_ge (tgt := 42) hx hb dX1_countVotes_18 (by decide) (fun c_2 => ?_) (fun c_2 => ?_)
    · have hi9 : 8 = i := (geN hi (by omega) rfl c_2).symm
      subst hi9
      refine lv_iload_n hx hb dX1_countVotes_42 rfl (lv_at hl 2 rfl) ?_
      exact rd_iret hx hb hr hlocks (by rfl) dX1_countVotes_43
    · have hlt : i < 8 := ltN hi (by omega) rfl c_2
      refine lv_aload_n hx hb dX1_countVotes_21 rfl (lv_at hl 3 rfl) ?_
      refine lv_iload hx hb dX1_countVotes_22 (lv_at hl 5 rfl) ?_
      refine q_iald (D := D) (j := i) (v := (v i)) hx hb hK hP 1 0 rfl rfl (by omega) (Nat.le_of_ble_eq_true rfl) rfl dX1_countVotes_24 ?_
      refine lv_istore (lv' := [(6, .int (v i)), (0, .ref hT), (1, .int q), (2, .int (xMv v q i)), (3, .ref hV), (4, .int 8), (5, .int (nI i))]) hx hb dX1_countVotes_25 hl (by decide) rfl (fun ls hl => ?_)
      refine lv_iload hx hb dX1_countVotes_27 (lv_at hl 0 rfl) ?_
      refine lv_iload_n hx hb dX1_countVotes_29 rfl (lv_at hl 2 rfl) ?_
      refine lv_icmp_ne (tgt := 36) hx hb dX1_countVotes_30 (by decide) (fun c_3 => ?_) (fun c_3 => ?_)
      · refine lv_iinc (v := (nI (i + 1))) (lv' := [(5, .int (nI (i + 1))), (6, .int (v i)), (0, .ref hT), (1, .int q), (2, .int (xMv v q i)), (3, .ref hV), (4, .int 8)]) hx hb dX1_countVotes_36 hl (k := 6) rfl (nI_1 i) (by decide) rfl (fun ls hl => ?_)
        refine lv_goto (tgt := 14) hx hb dX1_countVotes_39 (by decide) ?_
        have eb_0 : (xMv v q (i + 1)) = (xMv v q i) := by (first | rfl | (simp only [bI, xMv, c_2, c_3, eq_self, ↓reduceIte]; done) | (simp only [bI, xMv, c_2, c_3, eq_self, ↓reduceIte]; rfl) | simp [bI, xMv, c_2, c_3])
        exact ih_i (by omega) trivial ls (by show lv_has ls 7 [(0, .ref hT), (1, .int q), (2, .int (xMv v q (i + 1))), (3, .ref hV), (4, .int 8), (5, .int (nI (i + 1)))]; rw [eb_0]; exact lv_sub hl [2, 3, 4, 5, 6, 0] rfl)
      · refine lv_iinc (v := ((xMv v q i) + 1)) (lv' := [(2, .int ((xMv v q i) + 1)), (6, .int (v i)), (0, .ref hT), (1, .int q), (3, .ref hV), (4, .int 8), (5, .int (nI i))]) hx hb dX1_countVotes_33 hl (k := 3) rfl rfl (by decide) rfl (fun ls hl => ?_)
        refine lv_iinc (v := (nI (i + 1))) (lv' := [(5, .int (nI (i + 1))), (2, .int ((xMv v q i) + 1)), (6, .int (v i)), (0, .ref hT), (1, .int q), (3, .ref hV), (4, .int 8)]) hx hb dX1_countVotes_36 hl (k := 6) rfl (nI_1 i) (by decide) rfl (fun ls hl => ?_)
        refine lv_goto (tgt := 14) hx hb dX1_countVotes_39 (by decide) ?_
        have eb_0 : (xMv v q (i + 1)) = ((xMv v q i) + 1) := by (first | rfl | (simp only [bI, xMv, c_2, c_3, eq_self, ↓reduceIte]; done) | (simp only [bI, xMv, c_2, c_3, eq_self, ↓reduceIte]; rfl) | (simp only [bI, xMv, c_2, eq_true c_3, eq_self, ↓reduceIte]; done) | (simp only [bI, xMv, c_2, eq_true c_3, eq_self, ↓reduceIte]; rfl) | (simp [bI, xMv, c_2, eq_true c_3]; done) | simp [bI, xMv, c_2, c_3])
        exact ih_i (by omega) trivial ls (by show lv_has ls 7 [(0, .ref hT), (1, .int q), (2, .int (xMv v q (i + 1))), (3, .ref hV), (4, .int 8), (5, .int (nI (i + 1)))]; rw [eb_0]; exact lv_sub hl [3, 4, 1, 5, 6, 0] rfl)
  · show lv_has ls 7 [(0, .ref hT), (1, .int q), (2, .int (xMv v q 0)), (3, .ref hV), (4, .int 8), (5, .int (nI 0))]
    have en_0 : (xMv v q 0) = 0 := by rfl
    rw [en_0]
    have en_1 : (nI 0) = 0 := by exact nI_0
    rw [en_1]
    exact lv_sub hl [4, 5, 3, 2, 1, 0] rfl

theorem in_X1_playerWithMostVotes_X1 : ∀ w ∈ wsX10, w ∈ wsX1_playerWithMostVotes := by decide +kernel
set_option maxHeartbeats 2000000 in
set_option maxRecDepth 100000 in
theorem c_X1_playerWithMostVotes (l : Launch) (D : va_G) (cI cZ cJ : ClassId) (hT : Nat) (hB : Nat) (hV : Nat) (a : Nat → Int32) (v : Nat → Int32) (n : Nat) (hn : a 2 = nI n) (hn8 : n ≤ 8) : Rd l D cI cZ cJ yX1_playerWithMostVotes wsX1_playerWithMostVotes 1 26 [.ref hT] [cT hT hB hV a, cA cI hV 8 v] ((xBM v n).1) := by
  refine rd_of (by decide) rfl (Nat.le_of_ble_eq_true rfl) (fun p e s m below meth c ls hx hb hr hml hts hown hlocks hP hK hN hl => ?_)
  have hl : lv_has ls 5 [(0, .ref hT)] := hl
  refine lv_iconst (v := (-1)) hx hb dX1_playerWithMostVotes_0 (by decide) ?_
  refine lv_istore_n (lv' := [(1, .int (-1)), (0, .ref hT)]) hx hb dX1_playerWithMostVotes_1 rfl hl (by decide) rfl (fun ls hl => ?_)
  refine lv_iconst (v := 0) hx hb dX1_playerWithMostVotes_2 (by decide) ?_
  refine lv_istore_n (lv' := [(2, .int 0), (1, .int (-1)), (0, .ref hT)]) hx hb dX1_playerWithMostVotes_3 rfl hl (by decide) rfl (fun ls hl => ?_)
  refine lv_iconst (v := 0) hx hb dX1_playerWithMostVotes_4 (by decide) ?_
  refine lv_istore_n (lv' := [(3, .int 0), (2, .int 0), (1, .int (-1)), (0, .ref hT)]) hx hb dX1_playerWithMostVotes_5 rfl hl (by decide) rfl (fun ls hl => ?_)
  refine loop_R (nL := 5) (h := 6) n (fun i => [(0, .ref hT), (1, .int ((xBM v i).1)), (2, .int ((xBM v i).2)), (3, .int (nI i))]) (fun _ => True) (fun i hi hI ih_i ls hl => ?_) 0 (by omega) trivial ls ?_
  · have hl : lv_has ls 5 [(0, .ref hT), (1, .int ((xBM v i).1)), (2, .int ((xBM v i).2)), (3, .int (nI i))] := hl
    refine lv_iload_n hx hb dX1_playerWithMostVotes_6 rfl (lv_at hl 3 rfl) ?_
    refine lv_aload_n hx hb dX1_playerWithMostVotes_7 rfl (lv_at hl 0 rfl) ?_
    refine va_get (D := D) (cl := vwCl) (ci := 1) (v := .int (a 2)) (C := RX1) (T := TX1) (N := 14) hx hb hts in_X1_playerWithMostVotes_X1 hown hK hP 0 rfl rfl 4 (by decide) (hts (.fieldLink RX1 47 "WitchTrial" "playerCount" "I") (List.mem_of_getElem? (i := 1) rfl)) (fun _ h9 => h9) rfl dX1_playerWithMostVotes_8 ?_
    refine lv_icmp_ge (tgt := 49) hx hb dX1_playerWithMostVotes_11 (by decide) (fun c_2 => ?_) (fun c_2 => ?_)
    · have hi9 : n = i := (geN hi (by omega) hn c_2).symm
      subst hi9
      refine lv_iload_n hx hb dX1_playerWithMostVotes_49 rfl (lv_at hl 1 rfl) ?_
      exact rd_iret hx hb hr hlocks (by rfl) dX1_playerWithMostVotes_50
    · have hlt : i < n := ltN hi (by omega) hn c_2
      refine lv_aload_n hx hb dX1_playerWithMostVotes_14 rfl (lv_at hl 0 rfl) ?_
      refine lv_iload_n hx hb dX1_playerWithMostVotes_15 rfl (lv_at hl 3 rfl) ?_
      refine rd_V (b := hT) (As := [.int (nI i)]) (rest := []) ⟨hx, hb, hml, hown, hts⟩ (c_X1_countVotes l D cI cZ cJ hT hB hV a v (nI i)) (cwV 1 hts gX1_playerWithMostVotes_X1_countVotes rfl rfl rfl (by decide +kernel) ⟨Nat.le_of_ble_eq_true rfl, Nat.le_of_ble_eq_true rfl⟩) (hP.sub (ws' := [cT hT hB hV a, cA cI hV 8 v]) [0, 1] rfl) hK hN (va_recv hK hP (ci := 1) (q0 := 0) rfl rfl) rfl hl.1 rfl (Nat.le_of_ble_eq_true rfl) dX1_playerWithMostVotes_16 ⟨Nat.le_of_ble_eq_true rfl, Nat.le_of_ble_eq_true rfl⟩ ?_
      refine lv_istore (lv' := [(4, .int (xMv v (nI i) 8)), (0, .ref hT), (1, .int ((xBM v i).1)), (2, .int ((xBM v i).2)), (3, .int (nI i))]) hx hb dX1_playerWithMostVotes_19 hl (by decide) rfl (fun ls hl => ?_)
      refine lv_iload hx hb dX1_playerWithMostVotes_21 (lv_at hl 0 rfl) ?_
      refine lv_iload_n hx hb dX1_playerWithMostVotes_23 rfl (lv_at hl 3 rfl) ?_
      refine lv_icmp_le (tgt := 35) hx hb dX1_playerWithMostVotes_24 (by decide) (fun c_3 => ?_) (fun c_3 => ?_)
      · refine lv_iload hx hb dX1_playerWithMostVotes_35 (lv_at hl 0 rfl) ?_
        refine lv_iload_n hx hb dX1_playerWithMostVotes_37 rfl (lv_at hl 3 rfl) ?_
        refine lv_icmp_ne (tgt := 43) hx hb dX1_playerWithMostVotes_38 (by decide) (fun c_4 => ?_) (fun c_4 => ?_)
        · refine lv_iinc (v := (nI (i + 1))) (lv' := [(3, .int (nI (i + 1))), (4, .int (xMv v (nI i) 8)), (0, .ref hT), (1, .int ((xBM v i).1)), (2, .int ((xBM v i).2))]) hx hb dX1_playerWithMostVotes_43 hl (k := 4) rfl (nI_1 i) (by decide) rfl (fun ls hl => ?_)
          refine lv_goto (tgt := 6) hx hb dX1_playerWithMostVotes_46 (by decide) ?_
          have eb_0 : (xBM v (i + 1)).1 = (xBM v i).1 := by (first | rfl | (simp only [bI, xBM, c_2, c_3, c_4, eq_self, ↓reduceIte]; done) | (simp only [bI, xBM, c_2, c_3, c_4, eq_self, ↓reduceIte]; rfl) | simp [bI, xBM, c_2, c_3, c_4])
          have eb_1 : (xBM v (i + 1)).2 = (xBM v i).2 := by (first | rfl | (simp only [bI, xBM, c_2, c_3, c_4, eq_self, ↓reduceIte]; done) | (simp only [bI, xBM, c_2, c_3, c_4, eq_self, ↓reduceIte]; rfl) | simp [bI, xBM, c_2, c_3, c_4])
          exact ih_i (by omega) trivial ls (by show lv_has ls 5 [(0, .ref hT), (1, .int ((xBM v (i + 1)).1)), (2, .int ((xBM v (i + 1)).2)), (3, .int (nI (i + 1)))]; rw [eb_0]; rw [eb_1]; exact lv_sub hl [2, 3, 4, 0] rfl)
        · refine lv_iconst (v := (-1)) hx hb dX1_playerWithMostVotes_41 (by decide) ?_
          refine lv_istore_n (lv' := [(1, .int (-1)), (4, .int (xMv v (nI i) 8)), (0, .ref hT), (2, .int ((xBM v i).2)), (3, .int (nI i))]) hx hb dX1_playerWithMostVotes_42 rfl hl (by decide) rfl (fun ls hl => ?_)
          refine lv_iinc (v := (nI (i + 1))) (lv' := [(3, .int (nI (i + 1))), (1, .int (-1)), (4, .int (xMv v (nI i) 8)), (0, .ref hT), (2, .int ((xBM v i).2))]) hx hb dX1_playerWithMostVotes_43 hl (k := 4) rfl (nI_1 i) (by decide) rfl (fun ls hl => ?_)
          refine lv_goto (tgt := 6) hx hb dX1_playerWithMostVotes_46 (by decide) ?_
          have eb_0 : (xBM v (i + 1)).1 = (-1) := by (first | rfl | (simp only [bI, xBM, c_2, c_3, c_4, eq_self, ↓reduceIte]; done) | (simp only [bI, xBM, c_2, c_3, c_4, eq_self, ↓reduceIte]; rfl) | (simp only [bI, xBM, c_2, c_3, eq_true c_4, eq_self, ↓reduceIte]; done) | (simp only [bI, xBM, c_2, c_3, eq_true c_4, eq_self, ↓reduceIte]; rfl) | (simp [bI, xBM, c_2, c_3, eq_true c_4]; done) | simp [bI, xBM, c_2, c_3, c_4])
          have eb_1 : (xBM v (i + 1)).2 = (xBM v i).2 := by (first | rfl | (simp only [bI, xBM, c_2, c_3, c_4, eq_self, ↓reduceIte]; done) | (simp only [bI, xBM, c_2, c_3, c_4, eq_self, ↓reduceIte]; rfl) | (simp only [bI, xBM, c_2, c_3, eq_true c_4, eq_self, ↓reduceIte]; done) | (simp only [bI, xBM, c_2, c_3, eq_true c_4, eq_self, ↓reduceIte]; rfl) | (simp [bI, xBM, c_2, c_3, eq_true c_4]; done) | simp [bI, xBM, c_2, c_3, c_4])
          exact ih_i (by omega) trivial ls (by show lv_has ls 5 [(0, .ref hT), (1, .int ((xBM v (i + 1)).1)), (2, .int ((xBM v (i + 1)).2)), (3, .int (nI (i + 1)))]; rw [eb_0]; rw [eb_1]; exact lv_sub hl [3, 1, 4, 0] rfl)
      · refine lv_iload hx hb dX1_playerWithMostVotes_27 (lv_at hl 0 rfl) ?_
        refine lv_istore_n (lv' := [(2, .int (xMv v (nI i) 8)), (4, .int (xMv v (nI i) 8)), (0, .ref hT), (1, .int ((xBM v i).1)), (3, .int (nI i))]) hx hb dX1_playerWithMostVotes_29 rfl hl (by decide) rfl (fun ls hl => ?_)
        refine lv_iload_n hx hb dX1_playerWithMostVotes_30 rfl (lv_at hl 4 rfl) ?_
        refine lv_istore_n (lv' := [(1, .int (nI i)), (2, .int (xMv v (nI i) 8)), (4, .int (xMv v (nI i) 8)), (0, .ref hT), (3, .int (nI i))]) hx hb dX1_playerWithMostVotes_31 rfl hl (by decide) rfl (fun ls hl => ?_)
        refine lv_goto (tgt := 43) hx hb dX1_playerWithMostVotes_32 (by decide) ?_
        refine lv_iinc (v := (nI (i + 1))) (lv' := [(3, .int (nI (i + 1))), (1, .int (nI i)), (2, .int (xMv v (nI i) 8)), (4, .int (xMv v (nI i) 8)), (0, .ref hT)]) hx hb dX1_playerWithMostVotes_43 hl (k := 4) rfl (nI_1 i) (by decide) rfl (fun ls hl => ?_)
        refine lv_goto (tgt := 6) hx hb dX1_playerWithMostVotes_46 (by decide) ?_
        have eb_0 : (xBM v (i + 1)).1 = (nI i) := by (first | rfl | (simp only [bI, xBM, c_2, c_3, eq_self, ↓reduceIte]; done) | (simp only [bI, xBM, c_2, c_3, eq_self, ↓reduceIte]; rfl) | simp [bI, xBM, c_2, c_3])
        have eb_1 : (xBM v (i + 1)).2 = (xMv v (nI i) 8) := by (first | rfl | (simp only [bI, xBM, c_2, c_3, eq_self, ↓reduceIte]; done) | (simp only [bI, xBM, c_2, c_3, eq_self, ↓reduceIte]; rfl) | simp [bI, xBM, c_2, c_3])
        exact ih_i (by omega) trivial ls (by show lv_has ls 5 [(0, .ref hT), (1, .int ((xBM v (i + 1)).1)), (2, .int ((xBM v (i + 1)).2)), (3, .int (nI (i + 1)))]; rw [eb_0]; rw [eb_1]; exact lv_sub hl [4, 1, 2, 0] rfl)
  · show lv_has ls 5 [(0, .ref hT), (1, .int ((xBM v 0).1)), (2, .int ((xBM v 0).2)), (3, .int (nI 0))]
    have en_0 : (xBM v 0).1 = (-1) := by rfl
    rw [en_0]
    have en_1 : (xBM v 0).2 = 0 := by rfl
    rw [en_1]
    have en_2 : (nI 0) = 0 := by exact nI_0
    rw [en_2]
    exact lv_sub hl [3, 2, 1, 0] rfl

theorem in_X1_requireGame_X1 : ∀ w ∈ wsX10, w ∈ wsX1_requireGame := by decide +kernel
set_option maxHeartbeats 2000000 in
set_option maxRecDepth 100000 in
theorem c_X1_requireGame (l : Launch) (D : va_G) (cI cZ cJ : ClassId) (hT : Nat) (hB : Nat) (hV : Nat) (a : Nat → Int32) (hk : ¬ a 0 = 0) : Rv l D cI cZ cJ yX1_requireGame wsX1_requireGame 0 0 [.ref hT] [cT hT hB hV a] := by
  refine rv_of (by decide) rfl (Nat.le_of_ble_eq_true rfl) (fun p e s m below meth c ls hx hb hr hml hts hown hlocks hP hK hN hl => ?_)
  have hl : lv_has ls 1 [(0, .ref hT)] := hl
  refine lv_aload_n hx hb dX1_requireGame_0 rfl (lv_at hl 0 rfl) ?_
  refine va_get (D := D) (cl := vwCl) (ci := 1) (v := .int (a 0)) (C := RX1) (T := TX1) (N := 14) hx hb hts in_X1_requireGame_X1 hown hK hP 0 rfl rfl 2 (by decide) (hts (.fieldLink RX1 20 "WitchTrial" "phase" "I") (List.mem_of_getElem? (i := 3) rfl)) (fun _ h9 => h9) rfl dX1_requireGame_1 ?_
  refine lv_if_ne (tgt := 17) hx hb dX1_requireGame_4 (by decide) (fun c_1 => ?_) (fun c_1 => ?_)
  · exact rv_ret hx hb hr hlocks dX1_requireGame_17
  · exact absurd c_1 hk

theorem in_X1_requirePhase_X1 : ∀ w ∈ wsX10, w ∈ wsX1_requirePhase := by decide +kernel
set_option maxHeartbeats 2000000 in
set_option maxRecDepth 100000 in
theorem c_X1_requirePhase (l : Launch) (D : va_G) (cI cZ cJ : ClassId) (hT : Nat) (hB : Nat) (hV : Nat) (a : Nat → Int32) (k : Int32) (hk : a 0 = k) : Rv l D cI cZ cJ yX1_requirePhase wsX1_requirePhase 0 0 [.ref hT, .int k] [cT hT hB hV a] := by
  refine rv_of (by decide) rfl (Nat.le_of_ble_eq_true rfl) (fun p e s m below meth c ls hx hb hr hml hts hown hlocks hP hK hN hl => ?_)
  have hl : lv_has ls 2 [(0, .ref hT), (1, .int k)] := hl
  refine lv_aload_n hx hb dX1_requirePhase_0 rfl (lv_at hl 0 rfl) ?_
  refine va_get (D := D) (cl := vwCl) (ci := 1) (v := .int (a 0)) (C := RX1) (T := TX1) (N := 14) hx hb hts in_X1_requirePhase_X1 hown hK hP 0 rfl rfl 2 (by decide) (hts (.fieldLink RX1 20 "WitchTrial" "phase" "I") (List.mem_of_getElem? (i := 3) rfl)) (fun _ h9 => h9) rfl dX1_requirePhase_1 ?_
  refine lv_iload_n hx hb dX1_requirePhase_4 rfl (lv_at hl 1 rfl) ?_
  refine lv_icmp_eq (tgt := 18) hx hb dX1_requirePhase_5 (by decide) (fun c_1 => ?_) (fun c_1 => ?_)
  · exact rv_ret hx hb hr hlocks dX1_requirePhase_18
  · exact absurd hk c_1

theorem in_X1_requireToLive_X1 : ∀ w ∈ wsX10, w ∈ wsX1_requireToLive := by decide +kernel
set_option maxHeartbeats 2000000 in
set_option maxRecDepth 100000 in
theorem c_X1_requireToLive (l : Launch) (D : va_G) (cI cZ cJ : ClassId) (hT : Nat) (hB : Nat) (hV : Nat) (a : Nat → Int32) (q : Int32) (hk : yIn (a 6) q = true) : Rv l D cI cZ cJ yX1_requireToLive wsX1_requireToLive 2 41 [.ref hT, .int q] [cT hT hB hV a] := by
  refine rv_of (by decide) rfl (Nat.le_of_ble_eq_true rfl) (fun p e s m below meth c ls hx hb hr hml hts hown hlocks hP hK hN hl => ?_)
  have hl : lv_has ls 2 [(0, .ref hT), (1, .int q)] := hl
  refine lv_aload_n hx hb dX1_requireToLive_0 rfl (lv_at hl 0 rfl) ?_
  refine lv_iload_n hx hb dX1_requireToLive_1 rfl (lv_at hl 1 rfl) ?_
  refine rd_V (b := hT) (As := [.int q]) (rest := []) ⟨hx, hb, hml, hown, hts⟩ (c_X1_isAlive l D cI cZ cJ hT hB hV a q) (cwV 1 hts gX1_requireToLive_X1_isAlive rfl rfl rfl (by decide +kernel) ⟨Nat.le_of_ble_eq_true rfl, Nat.le_of_ble_eq_true rfl⟩) (hP.sub (ws' := [cT hT hB hV a]) [0] rfl) hK hN (va_recv hK hP (ci := 1) (q0 := 0) rfl rfl) rfl hl.1 rfl (Nat.le_of_ble_eq_true rfl) dX1_requireToLive_2 ⟨Nat.le_of_ble_eq_true rfl, Nat.le_of_ble_eq_true rfl⟩ ?_
  refine lv_if_ne (tgt := 18) hx hb dX1_requireToLive_5 (by decide) (fun c_1 => ?_) (fun c_1 => ?_)
  · have c_1 : (yIn (a 6) q) = true := bI_1 c_1
    exact rv_ret hx hb hr hlocks dX1_requireToLive_18
  · have c_1 : (yIn (a 6) q) = false := bI_0 c_1
    rw [hk] at c_1; cases c_1

theorem in_X1_requirePlayer_X1 : ∀ w ∈ wsX10, w ∈ wsX1_requirePlayer := by decide +kernel
set_option maxHeartbeats 2000000 in
set_option maxRecDepth 100000 in
theorem c_X1_requirePlayer (l : Launch) (D : va_G) (cI cZ cJ : ClassId) (hT : Nat) (hB : Nat) (hV : Nat) (a : Nat → Int32) (q : Int32) (hk : yPl a q = true) : Rv l D cI cZ cJ yX1_requirePlayer wsX1_requirePlayer 0 0 [.ref hT, .int q] [cT hT hB hV a] := by
  refine rv_of (by decide) rfl (Nat.le_of_ble_eq_true rfl) (fun p e s m below meth c ls hx hb hr hml hts hown hlocks hP hK hN hl => ?_)
  have hl : lv_has ls 2 [(0, .ref hT), (1, .int q)] := hl
  refine lv_iload_n hx hb dX1_requirePlayer_0 rfl (lv_at hl 1 rfl) ?_
  refine lv_if_lt (tgt := 12) hx hb dX1_requirePlayer_1 (by decide) (fun c_1 => ?_) (fun c_1 => ?_)
  · exact absurd hk (by simp [yPl, bI, c_1])
  · refine lv_iload_n hx hb dX1_requirePlayer_4 rfl (lv_at hl 1 rfl) ?_
    refine lv_aload_n hx hb dX1_requirePlayer_5 rfl (lv_at hl 0 rfl) ?_
    refine va_get (D := D) (cl := vwCl) (ci := 1) (v := .int (a 2)) (C := RX1) (T := TX1) (N := 14) hx hb hts in_X1_requirePlayer_X1 hown hK hP 0 rfl rfl 4 (by decide) (hts (.fieldLink RX1 47 "WitchTrial" "playerCount" "I") (List.mem_of_getElem? (i := 3) rfl)) (fun _ h9 => h9) rfl dX1_requirePlayer_6 ?_
    refine lv_icmp_lt (tgt := 22) hx hb dX1_requirePlayer_9 (by decide) (fun c_2 => ?_) (fun c_2 => ?_)
    · exact rv_ret hx hb hr hlocks dX1_requirePlayer_22
    · exact absurd hk (by simp [yPl, bI, c_1, c_2])

theorem in_X1_requireViewer_X1 : ∀ w ∈ wsX10, w ∈ wsX1_requireViewer := by decide +kernel
set_option maxHeartbeats 2000000 in
set_option maxRecDepth 100000 in
theorem c_X1_requireViewer (l : Launch) (D : va_G) (cI cZ cJ : ClassId) (hT : Nat) (hB : Nat) (hV : Nat) (a : Nat → Int32) (q : Int32) (hk : yVw a q = true) : Rv l D cI cZ cJ yX1_requireViewer wsX1_requireViewer 1 21 [.ref hT, .int q] [cT hT hB hV a] := by
  refine rv_of (by decide) rfl (Nat.le_of_ble_eq_true rfl) (fun p e s m below meth c ls hx hb hr hml hts hown hlocks hP hK hN hl => ?_)
  have hl : lv_has ls 2 [(0, .ref hT), (1, .int q)] := hl
  refine lv_iload_n hx hb dX1_requireViewer_0 rfl (lv_at hl 1 rfl) ?_
  refine lv_iconst (v := (-1)) hx hb dX1_requireViewer_1 (by decide) ?_
  refine lv_icmp_eq (tgt := 10) hx hb dX1_requireViewer_2 (by decide) (fun c_1 => ?_) (fun c_1 => ?_)
  · exact rv_ret hx hb hr hlocks dX1_requireViewer_10
  · refine lv_aload_n hx hb dX1_requireViewer_5 rfl (lv_at hl 0 rfl) ?_
    refine lv_iload_n hx hb dX1_requireViewer_6 rfl (lv_at hl 1 rfl) ?_
    refine rv_V (b := hT) (As := [.int q]) (rest := []) ⟨hx, hb, hml, hown, hts⟩ (c_X1_requirePlayer l D cI cZ cJ hT hB hV a q (by simpa [yVw, c_1] using hk)) (cwV 1 hts gX1_requireViewer_X1_requirePlayer rfl rfl rfl (by decide +kernel) ⟨Nat.le_of_ble_eq_true rfl, Nat.le_of_ble_eq_true rfl⟩) (hP.sub (ws' := [cT hT hB hV a]) [0] rfl) hK hN (va_recv hK hP (ci := 1) (q0 := 0) rfl rfl) rfl hl.1 rfl (Nat.le_of_ble_eq_true rfl) dX1_requireViewer_7 ⟨Nat.le_of_ble_eq_true rfl, Nat.le_of_ble_eq_true rfl⟩ ?_
    exact rv_ret hx hb hr hlocks dX1_requireViewer_10
end
section
theorem in_X0_agrees_X0 : ∀ w ∈ wsX00, w ∈ wsX0_agrees := by decide +kernel
set_option maxHeartbeats 2000000 in
set_option maxRecDepth 100000 in
theorem c_X0_agrees (l : Launch) (D : va_G) (cI cZ cJ : ClassId) (hB : Nat) (hG : Nat) (tr : Int32) (wd : Int32) (kn : Int32)  : Rd l D cI cZ cJ yX0_agrees wsX0_agrees 0 0 [.ref hB, .int wd, .int kn] [cB hB hG tr] (bI (yAgr wd tr kn)) := by
  refine rd_of (by decide) rfl (Nat.le_of_ble_eq_true rfl) (fun p e s m below meth c ls hx hb hr hml hts hown hlocks hP hK hN hl => ?_)
  have hl : lv_has ls 3 [(0, .ref hB), (1, .int wd), (2, .int kn)] := hl
  refine lv_iload_n hx hb dX0_agrees_0 rfl (lv_at hl 1 rfl) ?_
  refine lv_aload_n hx hb dX0_agrees_1 rfl (lv_at hl 0 rfl) ?_
  refine va_get (D := D) (cl := vwCl) (ci := 0) (v := .int tr) (C := RX0) (T := TX0) (N := 2) hx hb hts in_X0_agrees_X0 hown hK hP 0 rfl rfl 1 (by decide) (hts (.fieldLink RX0 15 "WitchTrial$Book" "truth" "I") (List.mem_of_getElem? (i := 1) rfl)) (fun _ h9 => h9) rfl dX0_agrees_2 ?_
  refine lv_ixor hx hb dX0_agrees_5 ?_
  refine lv_iload_n hx hb dX0_agrees_6 rfl (lv_at hl 2 rfl) ?_
  refine lv_iand hx hb dX0_agrees_7 ?_
  refine lv_if_ne (tgt := 15) hx hb dX0_agrees_8 (by decide) (fun c_1 => ?_) (fun c_1 => ?_)
  · refine lv_iconst (v := 0) hx hb dX0_agrees_15 (by decide) ?_
    exact rd_zret hx hb hr hlocks (by (first | rfl | (simp only [yAgr, bI, c_1, eq_self, ↓reduceIte]; done) | (simp only [yAgr, bI, c_1, eq_self, ↓reduceIte]; rfl) | simp [yAgr, bI, c_1])) rfl dX0_agrees_16
  · refine lv_iconst (v := 1) hx hb dX0_agrees_11 (by decide) ?_
    refine lv_goto (tgt := 16) hx hb dX0_agrees_12 (by decide) ?_
    exact rd_zret hx hb hr hlocks (by (first | rfl | (simp only [yAgr, bI, c_1, eq_self, ↓reduceIte]; done) | (simp only [yAgr, bI, c_1, eq_self, ↓reduceIte]; rfl) | (simp only [yAgr, bI, eq_true c_1, eq_self, ↓reduceIte]; done) | (simp only [yAgr, bI, eq_true c_1, eq_self, ↓reduceIte]; rfl) | (simp [yAgr, bI, eq_true c_1]; done) | simp [yAgr, bI, c_1])) rfl dX0_agrees_16

set_option maxHeartbeats 2000000 in
set_option maxRecDepth 100000 in
theorem c_X0_agreesWithClaim (l : Launch) (D : va_G) (cI cZ cJ : ClassId) (wd : Int32) (q : Int32) (bits : Int32) (b : Bool)  : Rd l D cI cZ cJ yX0_agreesWithClaim wsX0_agreesWithClaim 1 20 [.int wd, .int q, .int bits, .int (bI b)] [] (bI (yAg wd q bits b)) := by
  refine rd_of (by decide) rfl (Nat.le_of_ble_eq_true rfl) (fun p e s m below meth c ls hx hb hr hml hts hown hlocks hP hK hN hl => ?_)
  have hl : lv_has ls 4 [(0, .int wd), (1, .int q), (2, .int bits), (3, .int (bI b))] := hl
  refine lv_iload_n hx hb dX0_agreesWithClaim_0 rfl (lv_at hl 0 rfl) ?_
  refine lv_iload_n hx hb dX0_agreesWithClaim_1 rfl (lv_at hl 1 rfl) ?_
  refine rd_SN (As := [.int q]) (rest := [.int wd]) ⟨hx, hb, hml, hown, hts⟩ (c_X1_setOf l D cI cZ cJ q) ⟨va_cnB 1 hts gX0_agreesWithClaim_X1_setOf_n48 rfl rfl rfl (hN.link 8 rfl) (hts (.initialized RX1) (List.mem_of_getElem? (i := 2) rfl)) (by decide +kernel) ⟨Nat.le_of_ble_eq_true rfl, Nat.le_of_ble_eq_true rfl⟩, (hts (.static yX1_setOf) (List.mem_of_getElem? (i := 1) rfl)), trivial⟩ (hP.sub (ws' := []) [] rfl) hK hN rfl hl.1 rfl (Nat.le_of_ble_eq_true rfl) dX0_agreesWithClaim_2 ⟨Nat.le_of_ble_eq_true rfl, Nat.le_of_ble_eq_true rfl⟩ ?_
  refine lv_iand hx hb dX0_agreesWithClaim_5 ?_
  refine lv_if_ne (tgt := 24) hx hb dX0_agreesWithClaim_6 (by decide) (fun c_1 => ?_) (fun c_1 => ?_)
  · refine lv_iconst (v := 1) hx hb dX0_agreesWithClaim_24 (by decide) ?_
    refine lv_goto (tgt := 29) hx hb dX0_agreesWithClaim_25 (by decide) ?_
    exact rd_zret hx hb hr hlocks (by revert c_1; cases b <;> simp +contextual [yAg, bI]) rfl dX0_agreesWithClaim_29
  · refine lv_iload_n hx hb dX0_agreesWithClaim_9 rfl (lv_at hl 0 rfl) ?_
    refine lv_iload_n hx hb dX0_agreesWithClaim_10 rfl (lv_at hl 2 rfl) ?_
    refine lv_iand hx hb dX0_agreesWithClaim_11 ?_
    refine lv_if_eq (tgt := 19) hx hb dX0_agreesWithClaim_12 (by decide) (fun c_2 => ?_) (fun c_2 => ?_)
    · refine lv_iconst (v := 0) hx hb dX0_agreesWithClaim_19 (by decide) ?_
      refine lv_iload_n hx hb dX0_agreesWithClaim_20 rfl (lv_at hl 3 rfl) ?_
      refine lv_icmp_ne (tgt := 28) hx hb dX0_agreesWithClaim_21 (by decide) (fun c_3 => ?_) (fun c_3 => ?_)
      · refine lv_iconst (v := 0) hx hb dX0_agreesWithClaim_28 (by decide) ?_
        exact rd_zret hx hb hr hlocks (by revert c_1 c_2 c_3; cases b <;> simp +contextual [yAg, bI]) rfl dX0_agreesWithClaim_29
      · refine lv_iconst (v := 1) hx hb dX0_agreesWithClaim_24 (by decide) ?_
        refine lv_goto (tgt := 29) hx hb dX0_agreesWithClaim_25 (by decide) ?_
        exact rd_zret hx hb hr hlocks (by revert c_1 c_2 c_3; cases b <;> simp +contextual [yAg, bI]) rfl dX0_agreesWithClaim_29
    · refine lv_iconst (v := 1) hx hb dX0_agreesWithClaim_15 (by decide) ?_
      refine lv_goto (tgt := 20) hx hb dX0_agreesWithClaim_16 (by decide) ?_
      refine lv_iload_n hx hb dX0_agreesWithClaim_20 rfl (lv_at hl 3 rfl) ?_
      refine lv_icmp_ne (tgt := 28) hx hb dX0_agreesWithClaim_21 (by decide) (fun c_4 => ?_) (fun c_4 => ?_)
      · refine lv_iconst (v := 0) hx hb dX0_agreesWithClaim_28 (by decide) ?_
        exact rd_zret hx hb hr hlocks (by revert c_1 c_2 c_4; cases b <;> simp +contextual [yAg, bI]) rfl dX0_agreesWithClaim_29
      · refine lv_iconst (v := 1) hx hb dX0_agreesWithClaim_24 (by decide) ?_
        refine lv_goto (tgt := 29) hx hb dX0_agreesWithClaim_25 (by decide) ?_
        exact rd_zret hx hb hr hlocks (by revert c_1 c_2 c_4; cases b <;> simp +contextual [yAg, bI]) rfl dX0_agreesWithClaim_29

theorem in_X0_allowsClaim_X0 : ∀ w ∈ wsX00, w ∈ wsX0_allowsClaim := by decide +kernel
set_option maxHeartbeats 2000000 in
set_option maxRecDepth 100000 in
theorem c_X0_allowsClaim (l : Launch) (D : va_G) (cI cZ cJ : ClassId) (hB : Nat) (hG : Nat) (tr : Int32) (q : Int32) (bits : Int32) (b : Bool)  : Rd l D cI cZ cJ yX0_allowsClaim wsX0_allowsClaim 2 43 [.ref hB, .int q, .int bits, .int (bI b)] [cB hB hG tr] (bI (yAg tr q bits b)) := by
  refine rd_of (by decide) rfl (Nat.le_of_ble_eq_true rfl) (fun p e s m below meth c ls hx hb hr hml hts hown hlocks hP hK hN hl => ?_)
  have hl : lv_has ls 4 [(0, .ref hB), (1, .int q), (2, .int bits), (3, .int (bI b))] := hl
  refine lv_aload_n hx hb dX0_allowsClaim_0 rfl (lv_at hl 0 rfl) ?_
  refine va_get (D := D) (cl := vwCl) (ci := 0) (v := .int tr) (C := RX0) (T := TX0) (N := 2) hx hb hts in_X0_allowsClaim_X0 hown hK hP 0 rfl rfl 1 (by decide) (hts (.fieldLink RX0 15 "WitchTrial$Book" "truth" "I") (List.mem_of_getElem? (i := 1) rfl)) (fun _ h9 => h9) rfl dX0_allowsClaim_1 ?_
  refine lv_iload_n hx hb dX0_allowsClaim_4 rfl (lv_at hl 1 rfl) ?_
  refine lv_iload_n hx hb dX0_allowsClaim_5 rfl (lv_at hl 2 rfl) ?_
  refine lv_iload_n hx hb dX0_allowsClaim_6 rfl (lv_at hl 3 rfl) ?_
  refine rd_S (As := [.int tr, .int q, .int bits, .int (bI b)]) (rest := []) ⟨hx, hb, hml, hown, hts⟩ (c_X0_agreesWithClaim l D cI cZ cJ tr q bits b) (va_cwS 4 hts gX0_allowsClaim_X0_agreesWithClaim rfl rfl rfl (by decide +kernel) ⟨Nat.le_of_ble_eq_true rfl, Nat.le_of_ble_eq_true rfl⟩) (hP.sub (ws' := []) [] rfl) hK hN rfl hl.1 rfl (Nat.le_of_ble_eq_true rfl) dX0_allowsClaim_7 ⟨Nat.le_of_ble_eq_true rfl, Nat.le_of_ble_eq_true rfl⟩ ?_
  exact rd_zret hx hb hr hlocks (by rfl) (bI_nar _) dX0_allowsClaim_10

theorem in_X0_count_X0 : ∀ w ∈ wsX00, w ∈ wsX0_count := by decide +kernel
set_option maxHeartbeats 2000000 in
set_option maxRecDepth 100000 in
theorem c_X0_count (l : Launch) (D : va_G) (cI cZ cJ : ClassId) (hB : Nat) (hG : Nat) (tr : Int32) (g : Nat → Int32) (kn : Int32) (K : Nat) (hK9 : K ≤ 1120) (hg : ∀ j, j < K → ¬ g j = 0) (hz : K < 1120 → g K = 0) : Rd l D cI cZ cJ yX0_count wsX0_count 1 22 [.ref hB, .int kn] [cB hB hG tr, cA cI hG 1120 g] (xCnt (pAg g tr kn) K) := by
  refine rd_of (by decide) rfl (Nat.le_of_ble_eq_true rfl) (fun p e s m below meth c ls hx hb hr hml hts hown hlocks hP hK hN hl => ?_)
  have hl : lv_has ls 4 [(0, .ref hB), (1, .int kn)] := hl
  refine lv_iconst (v := 0) hx hb dX0_count_0 (by decide) ?_
  refine lv_istore_n (lv' := [(2, .int 0), (0, .ref hB), (1, .int kn)]) hx hb dX0_count_1 rfl hl (by decide) rfl (fun ls hl => ?_)
  refine lv_iconst (v := 0) hx hb dX0_count_2 (by decide) ?_
  refine lv_istore_n (lv' := [(3, .int 0), (2, .int 0), (0, .ref hB), (1, .int kn)]) hx hb dX0_count_3 rfl hl (by decide) rfl (fun ls hl => ?_)
  refine loop_R (nL := 4) (h := 4) K (fun i => [(0, .ref hB), (1, .int kn), (2, .int (xCnt (pAg g tr kn) i)), (3, .int (nI i))]) (fun _ => True) (fun i hi hI ih_i ls hl => ?_) 0 (by omega) trivial ls ?_
  · have hl : lv_has ls 4 [(0, .ref hB), (1, .int kn), (2, .int (xCnt (pAg g tr kn) i)), (3, .int (nI i))] := hl
    refine lv_iload_n hx hb dX0_count_4 rfl (lv_at hl 3 rfl) ?_
    refine lv_aload_n hx hb dX0_count_5 rfl (lv_at hl 0 rfl) ?_
    refine va_get (D := D) (cl := vwCl) (ci := 0) (v := .ref hG) (C := RX0) (T := TX0) (N := 2) hx hb hts in_X0_count_X0 hown hK hP 0 rfl rfl 0 (by decide) (hts (.fieldLink RX0 11 "WitchTrial$Book" "pages" "[I") (List.mem_of_getElem? (i := 1) rfl)) (fun _ h9 => h9) rfl dX0_count_6 ?_
    refine va_alen (D := D) (cl := vwCl) hx hb hK hP 1 0 rfl rfl (v := 1120) rfl dX0_count_9 ?_
    refine lv_icmp_ge (tgt := 45) hx hb dX0_count_10 (by decide) (fun c_2 => ?_) (fun c_2 => ?_)
    · have hi9 : K = i := (kEx1 hi hK9 c_2).symm
      subst hi9
      refine lv_iload_n hx hb dX0_count_45 rfl (lv_at hl 2 rfl) ?_
      exact rd_iret hx hb hr hlocks (by rfl) dX0_count_46
    · have hlt : i < 1120 := ltN (by omega) (by omega) rfl c_2
      refine lv_aload_n hx hb dX0_count_13 rfl (lv_at hl 0 rfl) ?_
      refine va_get (D := D) (cl := vwCl) (ci := 0) (v := .ref hG) (C := RX0) (T := TX0) (N := 2) hx hb hts in_X0_count_X0 hown hK hP 0 rfl rfl 0 (by decide) (hts (.fieldLink RX0 11 "WitchTrial$Book" "pages" "[I") (List.mem_of_getElem? (i := 1) rfl)) (fun _ h9 => h9) rfl dX0_count_14 ?_
      refine lv_iload_n hx hb dX0_count_17 rfl (lv_at hl 3 rfl) ?_
      refine q_iald (D := D) (j := i) (v := (g i)) hx hb hK hP 1 0 rfl rfl (by omega) (Nat.le_of_ble_eq_true rfl) rfl dX0_count_18 ?_
      refine lv_if_eq (tgt := 45) hx hb dX0_count_19 (by decide) (fun c_3 => ?_) (fun c_3 => ?_)
      · have hi9 : K = i := (kEx2 hi hg c_3).symm
        subst hi9
        refine lv_iload_n hx hb dX0_count_45 rfl (lv_at hl 2 rfl) ?_
        exact rd_iret hx hb hr hlocks (by rfl) dX0_count_46
      · have hlK : i < K := kEx3 hi hlt hz c_3
        refine lv_aload_n hx hb dX0_count_22 rfl (lv_at hl 0 rfl) ?_
        refine lv_aload_n hx hb dX0_count_23 rfl (lv_at hl 0 rfl) ?_
        refine va_get (D := D) (cl := vwCl) (ci := 0) (v := .ref hG) (C := RX0) (T := TX0) (N := 2) hx hb hts in_X0_count_X0 hown hK hP 0 rfl rfl 0 (by decide) (hts (.fieldLink RX0 11 "WitchTrial$Book" "pages" "[I") (List.mem_of_getElem? (i := 1) rfl)) (fun _ h9 => h9) rfl dX0_count_24 ?_
        refine lv_iload_n hx hb dX0_count_27 rfl (lv_at hl 3 rfl) ?_
        refine q_iald (D := D) (j := i) (v := (g i)) hx hb hK hP 1 0 rfl rfl (by omega) (Nat.le_of_ble_eq_true rfl) rfl dX0_count_28 ?_
        refine lv_iload_n hx hb dX0_count_29 rfl (lv_at hl 1 rfl) ?_
        refine rd_V (b := hB) (As := [.int (g i), .int kn]) (rest := []) ⟨hx, hb, hml, hown, hts⟩ (c_X0_agrees l D cI cZ cJ hB hG tr (g i) kn) (cwV 2 hts gX0_count_X0_agrees rfl rfl rfl (by decide +kernel) ⟨Nat.le_of_ble_eq_true rfl, Nat.le_of_ble_eq_true rfl⟩) (hP.sub (ws' := [cB hB hG tr]) [0] rfl) hK hN (va_recv hK hP (ci := 0) (q0 := 0) rfl rfl) rfl hl.1 rfl (Nat.le_of_ble_eq_true rfl) dX0_count_30 ⟨Nat.le_of_ble_eq_true rfl, Nat.le_of_ble_eq_true rfl⟩ ?_
        refine lv_if_eq (tgt := 39) hx hb dX0_count_33 (by decide) (fun c_4 => ?_) (fun c_4 => ?_)
        · have c_4 : (yAgr (g i) tr kn) = false := bI_0 c_4
          refine lv_iinc (v := (nI (i + 1))) (lv' := [(3, .int (nI (i + 1))), (0, .ref hB), (1, .int kn), (2, .int (xCnt (pAg g tr kn) i))]) hx hb dX0_count_39 hl (k := 3) rfl (nI_1 i) (by decide) rfl (fun ls hl => ?_)
          refine lv_goto (tgt := 4) hx hb dX0_count_42 (by decide) ?_
          have eb_0 : (xCnt (pAg g tr kn) (i + 1)) = (xCnt (pAg g tr kn) i) := by (first | rfl | (simp only [bI, xCnt, pAg, c_2, c_3, c_4, eq_self, ↓reduceIte]; done) | (simp only [bI, xCnt, pAg, c_2, c_3, c_4, eq_self, ↓reduceIte]; rfl) | simp [bI, xCnt, pAg, c_2, c_3, c_4])
          exact ih_i (by omega) trivial ls (by show lv_has ls 4 [(0, .ref hB), (1, .int kn), (2, .int (xCnt (pAg g tr kn) (i + 1))), (3, .int (nI (i + 1)))]; rw [eb_0]; exact lv_sub hl [1, 2, 3, 0] rfl)
        · have c_4 : (yAgr (g i) tr kn) = true := bI_1 c_4
          refine lv_iinc (v := ((xCnt (pAg g tr kn) i) + 1)) (lv' := [(2, .int ((xCnt (pAg g tr kn) i) + 1)), (0, .ref hB), (1, .int kn), (3, .int (nI i))]) hx hb dX0_count_36 hl (k := 2) rfl rfl (by decide) rfl (fun ls hl => ?_)
          refine lv_iinc (v := (nI (i + 1))) (lv' := [(3, .int (nI (i + 1))), (2, .int ((xCnt (pAg g tr kn) i) + 1)), (0, .ref hB), (1, .int kn)]) hx hb dX0_count_39 hl (k := 3) rfl (nI_1 i) (by decide) rfl (fun ls hl => ?_)
          refine lv_goto (tgt := 4) hx hb dX0_count_42 (by decide) ?_
          have eb_0 : (xCnt (pAg g tr kn) (i + 1)) = ((xCnt (pAg g tr kn) i) + 1) := by (first | rfl | (simp only [bI, xCnt, pAg, c_2, c_3, c_4, eq_self, ↓reduceIte]; done) | (simp only [bI, xCnt, pAg, c_2, c_3, c_4, eq_self, ↓reduceIte]; rfl) | simp [bI, xCnt, pAg, c_2, c_3, c_4])
          exact ih_i (by omega) trivial ls (by show lv_has ls 4 [(0, .ref hB), (1, .int kn), (2, .int (xCnt (pAg g tr kn) (i + 1))), (3, .int (nI (i + 1)))]; rw [eb_0]; exact lv_sub hl [2, 3, 1, 0] rfl)
  · show lv_has ls 4 [(0, .ref hB), (1, .int kn), (2, .int (xCnt (pAg g tr kn) 0)), (3, .int (nI 0))]
    have en_0 : (xCnt (pAg g tr kn) 0) = 0 := by rfl
    rw [en_0]
    have en_1 : (nI 0) = 0 := by exact nI_0
    rw [en_1]
    exact lv_sub hl [2, 3, 1, 0] rfl

theorem in_X0_countWithRole_X0 : ∀ w ∈ wsX00, w ∈ wsX0_countWithRole := by decide +kernel
set_option maxHeartbeats 2000000 in
set_option maxRecDepth 100000 in
theorem c_X0_countWithRole (l : Launch) (D : va_G) (cI cZ cJ : ClassId) (hB : Nat) (hG : Nat) (tr : Int32) (g : Nat → Int32) (kn : Int32) (q : Int32) (k : Int32) (K : Nat) (hK9 : K ≤ 1120) (hg : ∀ j, j < K → ¬ g j = 0) (hz : K < 1120 → g K = 0) : Rd l D cI cZ cJ yX0_countWithRole wsX0_countWithRole 2 41 [.ref hB, .int kn, .int q, .int k] [cB hB hG tr, cA cI hG 1120 g] (xCnt (pRo g tr kn q k) K) := by
  refine rd_of (by decide) rfl (Nat.le_of_ble_eq_true rfl) (fun p e s m below meth c ls hx hb hr hml hts hown hlocks hP hK hN hl => ?_)
  have hl : lv_has ls 8 [(0, .ref hB), (1, .int kn), (2, .int q), (3, .int k)] := hl
  refine lv_iload_n hx hb dX0_countWithRole_0 rfl (lv_at hl 2 rfl) ?_
  refine rd_SN (As := [.int q]) (rest := []) ⟨hx, hb, hml, hown, hts⟩ (c_X1_setOf l D cI cZ cJ q) ⟨va_cnB 1 hts gX0_countWithRole_X1_setOf_n48 rfl rfl rfl (hN.link 8 rfl) (hts (.initialized RX1) (List.mem_of_getElem? (i := 3) rfl)) (by decide +kernel) ⟨Nat.le_of_ble_eq_true rfl, Nat.le_of_ble_eq_true rfl⟩, (hts (.static yX1_setOf) (List.mem_of_getElem? (i := 2) rfl)), trivial⟩ (hP.sub (ws' := []) [] rfl) hK hN rfl hl.1 rfl (Nat.le_of_ble_eq_true rfl) dX0_countWithRole_1 ⟨Nat.le_of_ble_eq_true rfl, Nat.le_of_ble_eq_true rfl⟩ ?_
  refine rd_SN (As := [.int (yOf q)]) (rest := []) ⟨hx, hb, hml, hown, hts⟩ (c_X1_roleBits l D cI cZ cJ (yOf q)) ⟨va_cnB 1 hts gX0_countWithRole_X1_roleBits_n59 rfl rfl rfl (hN.link 11 rfl) (hts (.initialized RX1) (List.mem_of_getElem? (i := 3) rfl)) (by decide +kernel) ⟨Nat.le_of_ble_eq_true rfl, Nat.le_of_ble_eq_true rfl⟩, (hts (.static yX1_roleBits) (List.mem_of_getElem? (i := 5) rfl)), trivial⟩ (hP.sub (ws' := []) [] rfl) hK hN rfl hl.1 rfl (Nat.le_of_ble_eq_true rfl) dX0_countWithRole_4 ⟨Nat.le_of_ble_eq_true rfl, Nat.le_of_ble_eq_true rfl⟩ ?_
  refine lv_istore (lv' := [(4, .int (yRb (yOf q))), (0, .ref hB), (1, .int kn), (2, .int q), (3, .int k)]) hx hb dX0_countWithRole_7 hl (by decide) rfl (fun ls hl => ?_)
  refine lv_iload_n hx hb dX0_countWithRole_9 rfl (lv_at hl 3 rfl) ?_
  refine lv_iload_n hx hb dX0_countWithRole_10 rfl (lv_at hl 4 rfl) ?_
  refine rd_SN (As := [.int q, .int k]) (rest := []) ⟨hx, hb, hml, hown, hts⟩ (c_X1_bitOfRole l D cI cZ cJ q k) ⟨va_cnB 2 hts gX0_countWithRole_X1_bitOfRole_n62 rfl rfl rfl (hN.link 12 rfl) (hts (.initialized RX1) (List.mem_of_getElem? (i := 3) rfl)) (by decide +kernel) ⟨Nat.le_of_ble_eq_true rfl, Nat.le_of_ble_eq_true rfl⟩, (hts (.static yX1_bitOfRole) (List.mem_of_getElem? (i := 7) rfl)), trivial⟩ (hP.sub (ws' := []) [] rfl) hK hN rfl hl.1 rfl (Nat.le_of_ble_eq_true rfl) dX0_countWithRole_11 ⟨Nat.le_of_ble_eq_true rfl, Nat.le_of_ble_eq_true rfl⟩ ?_
  refine lv_istore (lv' := [(5, .int (yBr q k)), (4, .int (yRb (yOf q))), (0, .ref hB), (1, .int kn), (2, .int q), (3, .int k)]) hx hb dX0_countWithRole_14 hl (by decide) rfl (fun ls hl => ?_)
  refine lv_iconst (v := 0) hx hb dX0_countWithRole_16 (by decide) ?_
  refine lv_istore (lv' := [(6, .int 0), (5, .int (yBr q k)), (4, .int (yRb (yOf q))), (0, .ref hB), (1, .int kn), (2, .int q), (3, .int k)]) hx hb dX0_countWithRole_17 hl (by decide) rfl (fun ls hl => ?_)
  refine lv_iconst (v := 0) hx hb dX0_countWithRole_19 (by decide) ?_
  refine lv_istore (lv' := [(7, .int 0), (6, .int 0), (5, .int (yBr q k)), (4, .int (yRb (yOf q))), (0, .ref hB), (1, .int kn), (2, .int q), (3, .int k)]) hx hb dX0_countWithRole_20 hl (by decide) rfl (fun ls hl => ?_)
  refine loop_R (nL := 8) (h := 22) K (fun i => [(0, .ref hB), (1, .int kn), (2, .int q), (3, .int k), (4, .int (yRb (yOf q))), (5, .int (yBr q k)), (6, .int (xCnt (pRo g tr kn q k) i)), (7, .int (nI i))]) (fun _ => True) (fun i hi hI ih_i ls hl => ?_) 0 (by omega) trivial ls ?_
  · have hl : lv_has ls 8 [(0, .ref hB), (1, .int kn), (2, .int q), (3, .int k), (4, .int (yRb (yOf q))), (5, .int (yBr q k)), (6, .int (xCnt (pRo g tr kn q k) i)), (7, .int (nI i))] := hl
    refine lv_iload hx hb dX0_countWithRole_22 (lv_at hl 7 rfl) ?_
    refine lv_aload_n hx hb dX0_countWithRole_24 rfl (lv_at hl 0 rfl) ?_
    refine va_get (D := D) (cl := vwCl) (ci := 0) (v := .ref hG) (C := RX0) (T := TX0) (N := 2) hx hb hts in_X0_countWithRole_X0 hown hK hP 0 rfl rfl 0 (by decide) (hts (.fieldLink RX0 11 "WitchTrial$Book" "pages" "[I") (List.mem_of_getElem? (i := 1) rfl)) (fun _ h9 => h9) rfl dX0_countWithRole_25 ?_
    refine va_alen (D := D) (cl := vwCl) hx hb hK hP 1 0 rfl rfl (v := 1120) rfl dX0_countWithRole_28 ?_
    refine lv_icmp_ge (tgt := 81) hx hb dX0_countWithRole_29 (by decide) (fun c_2 => ?_) (fun c_2 => ?_)
    · have hi9 : K = i := (kEx1 hi hK9 c_2).symm
      subst hi9
      refine lv_iload hx hb dX0_countWithRole_81 (lv_at hl 6 rfl) ?_
      exact rd_iret hx hb hr hlocks (by rfl) dX0_countWithRole_83
    · have hlt : i < 1120 := ltN (by omega) (by omega) rfl c_2
      refine lv_aload_n hx hb dX0_countWithRole_32 rfl (lv_at hl 0 rfl) ?_
      refine va_get (D := D) (cl := vwCl) (ci := 0) (v := .ref hG) (C := RX0) (T := TX0) (N := 2) hx hb hts in_X0_countWithRole_X0 hown hK hP 0 rfl rfl 0 (by decide) (hts (.fieldLink RX0 11 "WitchTrial$Book" "pages" "[I") (List.mem_of_getElem? (i := 1) rfl)) (fun _ h9 => h9) rfl dX0_countWithRole_33 ?_
      refine lv_iload hx hb dX0_countWithRole_36 (lv_at hl 7 rfl) ?_
      refine q_iald (D := D) (j := i) (v := (g i)) hx hb hK hP 1 0 rfl rfl (by omega) (Nat.le_of_ble_eq_true rfl) rfl dX0_countWithRole_38 ?_
      refine lv_if_eq (tgt := 81) hx hb dX0_countWithRole_39 (by decide) (fun c_3 => ?_) (fun c_3 => ?_)
      · have hi9 : K = i := (kEx2 hi hg c_3).symm
        subst hi9
        refine lv_iload hx hb dX0_countWithRole_81 (lv_at hl 6 rfl) ?_
        exact rd_iret hx hb hr hlocks (by rfl) dX0_countWithRole_83
      · have hlK : i < K := kEx3 hi hlt hz c_3
        refine lv_aload_n hx hb dX0_countWithRole_42 rfl (lv_at hl 0 rfl) ?_
        refine va_get (D := D) (cl := vwCl) (ci := 0) (v := .ref hG) (C := RX0) (T := TX0) (N := 2) hx hb hts in_X0_countWithRole_X0 hown hK hP 0 rfl rfl 0 (by decide) (hts (.fieldLink RX0 11 "WitchTrial$Book" "pages" "[I") (List.mem_of_getElem? (i := 1) rfl)) (fun _ h9 => h9) rfl dX0_countWithRole_43 ?_
        refine lv_iload hx hb dX0_countWithRole_46 (lv_at hl 7 rfl) ?_
        refine q_iald (D := D) (j := i) (v := (g i)) hx hb hK hP 1 0 rfl rfl (by omega) (Nat.le_of_ble_eq_true rfl) rfl dX0_countWithRole_48 ?_
        refine lv_iload hx hb dX0_countWithRole_49 (lv_at hl 4 rfl) ?_
        refine lv_iand hx hb dX0_countWithRole_51 ?_
        refine lv_iload hx hb dX0_countWithRole_52 (lv_at hl 5 rfl) ?_
        refine lv_icmp_ne (tgt := 75) hx hb dX0_countWithRole_54 (by decide) (fun c_4 => ?_) (fun c_4 => ?_)
        · refine lv_iinc (v := (nI (i + 1))) (lv' := [(7, .int (nI (i + 1))), (0, .ref hB), (1, .int kn), (2, .int q), (3, .int k), (4, .int (yRb (yOf q))), (5, .int (yBr q k)), (6, .int (xCnt (pRo g tr kn q k) i))]) hx hb dX0_countWithRole_75 hl (k := 7) rfl (nI_1 i) (by decide) rfl (fun ls hl => ?_)
          refine lv_goto (tgt := 22) hx hb dX0_countWithRole_78 (by decide) ?_
          have eb_0 : (xCnt (pRo g tr kn q k) (i + 1)) = (xCnt (pRo g tr kn q k) i) := by (first | rfl | (simp only [bI, xCnt, pRo, c_2, c_3, c_4, eq_self, ↓reduceIte]; done) | (simp only [bI, xCnt, pRo, c_2, c_3, c_4, eq_self, ↓reduceIte]; rfl) | simp [bI, xCnt, pRo, c_2, c_3, c_4])
          exact ih_i (by omega) trivial ls (by show lv_has ls 8 [(0, .ref hB), (1, .int kn), (2, .int q), (3, .int k), (4, .int (yRb (yOf q))), (5, .int (yBr q k)), (6, .int (xCnt (pRo g tr kn q k) (i + 1))), (7, .int (nI (i + 1)))]; rw [eb_0]; exact lv_sub hl [1, 2, 3, 4, 5, 6, 7, 0] rfl)
        · refine lv_aload_n hx hb dX0_countWithRole_57 rfl (lv_at hl 0 rfl) ?_
          refine lv_aload_n hx hb dX0_countWithRole_58 rfl (lv_at hl 0 rfl) ?_
          refine va_get (D := D) (cl := vwCl) (ci := 0) (v := .ref hG) (C := RX0) (T := TX0) (N := 2) hx hb hts in_X0_countWithRole_X0 hown hK hP 0 rfl rfl 0 (by decide) (hts (.fieldLink RX0 11 "WitchTrial$Book" "pages" "[I") (List.mem_of_getElem? (i := 1) rfl)) (fun _ h9 => h9) rfl dX0_countWithRole_59 ?_
          refine lv_iload hx hb dX0_countWithRole_62 (lv_at hl 7 rfl) ?_
          refine q_iald (D := D) (j := i) (v := (g i)) hx hb hK hP 1 0 rfl rfl (by omega) (Nat.le_of_ble_eq_true rfl) rfl dX0_countWithRole_64 ?_
          refine lv_iload_n hx hb dX0_countWithRole_65 rfl (lv_at hl 1 rfl) ?_
          refine rd_V (b := hB) (As := [.int (g i), .int kn]) (rest := []) ⟨hx, hb, hml, hown, hts⟩ (c_X0_agrees l D cI cZ cJ hB hG tr (g i) kn) (cwV 2 hts gX0_countWithRole_X0_agrees rfl rfl rfl (by decide +kernel) ⟨Nat.le_of_ble_eq_true rfl, Nat.le_of_ble_eq_true rfl⟩) (hP.sub (ws' := [cB hB hG tr]) [0] rfl) hK hN (va_recv hK hP (ci := 0) (q0 := 0) rfl rfl) rfl hl.1 rfl (Nat.le_of_ble_eq_true rfl) dX0_countWithRole_66 ⟨Nat.le_of_ble_eq_true rfl, Nat.le_of_ble_eq_true rfl⟩ ?_
          refine lv_if_eq (tgt := 75) hx hb dX0_countWithRole_69 (by decide) (fun c_5 => ?_) (fun c_5 => ?_)
          · have c_5 : (yAgr (g i) tr kn) = false := bI_0 c_5
            refine lv_iinc (v := (nI (i + 1))) (lv' := [(7, .int (nI (i + 1))), (0, .ref hB), (1, .int kn), (2, .int q), (3, .int k), (4, .int (yRb (yOf q))), (5, .int (yBr q k)), (6, .int (xCnt (pRo g tr kn q k) i))]) hx hb dX0_countWithRole_75 hl (k := 7) rfl (nI_1 i) (by decide) rfl (fun ls hl => ?_)
            refine lv_goto (tgt := 22) hx hb dX0_countWithRole_78 (by decide) ?_
            have eb_0 : (xCnt (pRo g tr kn q k) (i + 1)) = (xCnt (pRo g tr kn q k) i) := by (first | rfl | (simp only [bI, xCnt, pRo, c_2, c_3, c_4, c_5, eq_self, ↓reduceIte]; done) | (simp only [bI, xCnt, pRo, c_2, c_3, c_4, c_5, eq_self, ↓reduceIte]; rfl) | (simp only [bI, xCnt, pRo, c_2, c_3, eq_true c_4, c_5, eq_self, ↓reduceIte]; done) | (simp only [bI, xCnt, pRo, c_2, c_3, eq_true c_4, c_5, eq_self, ↓reduceIte]; rfl) | (simp [bI, xCnt, pRo, c_2, c_3, eq_true c_4, c_5]; done) | simp [bI, xCnt, pRo, c_2, c_3, c_4, c_5])
            exact ih_i (by omega) trivial ls (by show lv_has ls 8 [(0, .ref hB), (1, .int kn), (2, .int q), (3, .int k), (4, .int (yRb (yOf q))), (5, .int (yBr q k)), (6, .int (xCnt (pRo g tr kn q k) (i + 1))), (7, .int (nI (i + 1)))]; rw [eb_0]; exact lv_sub hl [1, 2, 3, 4, 5, 6, 7, 0] rfl)
          · have c_5 : (yAgr (g i) tr kn) = true := bI_1 c_5
            refine lv_iinc (v := ((xCnt (pRo g tr kn q k) i) + 1)) (lv' := [(6, .int ((xCnt (pRo g tr kn q k) i) + 1)), (0, .ref hB), (1, .int kn), (2, .int q), (3, .int k), (4, .int (yRb (yOf q))), (5, .int (yBr q k)), (7, .int (nI i))]) hx hb dX0_countWithRole_72 hl (k := 6) rfl rfl (by decide) rfl (fun ls hl => ?_)
            refine lv_iinc (v := (nI (i + 1))) (lv' := [(7, .int (nI (i + 1))), (6, .int ((xCnt (pRo g tr kn q k) i) + 1)), (0, .ref hB), (1, .int kn), (2, .int q), (3, .int k), (4, .int (yRb (yOf q))), (5, .int (yBr q k))]) hx hb dX0_countWithRole_75 hl (k := 7) rfl (nI_1 i) (by decide) rfl (fun ls hl => ?_)
            refine lv_goto (tgt := 22) hx hb dX0_countWithRole_78 (by decide) ?_
            have eb_0 : (xCnt (pRo g tr kn q k) (i + 1)) = ((xCnt (pRo g tr kn q k) i) + 1) := by (first | rfl | (simp only [bI, xCnt, pRo, c_2, c_3, c_4, c_5, eq_self, ↓reduceIte]; done) | (simp only [bI, xCnt, pRo, c_2, c_3, c_4, c_5, eq_self, ↓reduceIte]; rfl) | (simp only [bI, xCnt, pRo, c_2, c_3, eq_true c_4, c_5, eq_self, ↓reduceIte]; done) | (simp only [bI, xCnt, pRo, c_2, c_3, eq_true c_4, c_5, eq_self, ↓reduceIte]; rfl) | (simp [bI, xCnt, pRo, c_2, c_3, eq_true c_4, c_5]; done) | simp [bI, xCnt, pRo, c_2, c_3, c_4, c_5])
            exact ih_i (by omega) trivial ls (by show lv_has ls 8 [(0, .ref hB), (1, .int kn), (2, .int q), (3, .int k), (4, .int (yRb (yOf q))), (5, .int (yBr q k)), (6, .int (xCnt (pRo g tr kn q k) (i + 1))), (7, .int (nI (i + 1)))]; rw [eb_0]; exact lv_sub hl [2, 3, 4, 5, 6, 7, 1, 0] rfl)
  · show lv_has ls 8 [(0, .ref hB), (1, .int kn), (2, .int q), (3, .int k), (4, .int (yRb (yOf q))), (5, .int (yBr q k)), (6, .int (xCnt (pRo g tr kn q k) 0)), (7, .int (nI 0))]
    have en_0 : (xCnt (pRo g tr kn q k) 0) = 0 := by rfl
    rw [en_0]
    have en_1 : (nI 0) = 0 := by exact nI_0
    rw [en_1]
    exact lv_sub hl [4, 5, 6, 7, 3, 2, 1, 0] rfl

theorem in_X0_witchesInAll_X0 : ∀ w ∈ wsX00, w ∈ wsX0_witchesInAll := by decide +kernel
set_option maxHeartbeats 2000000 in
set_option maxRecDepth 100000 in
theorem c_X0_witchesInAll (l : Launch) (D : va_G) (cI cZ cJ : ClassId) (hB : Nat) (hG : Nat) (tr : Int32) (g : Nat → Int32) (kn : Int32) (K : Nat) (hK9 : K ≤ 1120) (hg : ∀ j, j < K → ¬ g j = 0) (hz : K < 1120 → g K = 0) : Rd l D cI cZ cJ yX0_witchesInAll wsX0_witchesInAll 1 22 [.ref hB, .int kn] [cB hB hG tr, cA cI hG 1120 g] (yWa g tr kn K) := by
  refine rd_of (by decide) rfl (Nat.le_of_ble_eq_true rfl) (fun p e s m below meth c ls hx hb hr hml hts hown hlocks hP hK hN hl => ?_)
  have hl : lv_has ls 4 [(0, .ref hB), (1, .int kn)] := hl
  refine lv_sipush (v := 255) hx hb dX0_witchesInAll_0 (by decide) ?_
  refine lv_istore_n (lv' := [(2, .int 255), (0, .ref hB), (1, .int kn)]) hx hb dX0_witchesInAll_3 rfl hl (by decide) rfl (fun ls hl => ?_)
  refine lv_iconst (v := 0) hx hb dX0_witchesInAll_4 (by decide) ?_
  refine lv_istore_n (lv' := [(3, .int 0), (2, .int 255), (0, .ref hB), (1, .int kn)]) hx hb dX0_witchesInAll_5 rfl hl (by decide) rfl (fun ls hl => ?_)
  refine loop_R (nL := 4) (h := 6) K (fun i => [(0, .ref hB), (1, .int kn), (2, .int (yWa g tr kn i)), (3, .int (nI i))]) (fun _ => True) (fun i hi hI ih_i ls hl => ?_) 0 (by omega) trivial ls ?_
  · have hl : lv_has ls 4 [(0, .ref hB), (1, .int kn), (2, .int (yWa g tr kn i)), (3, .int (nI i))] := hl
    refine lv_iload_n hx hb dX0_witchesInAll_6 rfl (lv_at hl 3 rfl) ?_
    refine lv_aload_n hx hb dX0_witchesInAll_7 rfl (lv_at hl 0 rfl) ?_
    refine va_get (D := D) (cl := vwCl) (ci := 0) (v := .ref hG) (C := RX0) (T := TX0) (N := 2) hx hb hts in_X0_witchesInAll_X0 hown hK hP 0 rfl rfl 0 (by decide) (hts (.fieldLink RX0 11 "WitchTrial$Book" "pages" "[I") (List.mem_of_getElem? (i := 1) rfl)) (fun _ h9 => h9) rfl dX0_witchesInAll_8 ?_
    refine va_alen (D := D) (cl := vwCl) hx hb hK hP 1 0 rfl rfl (v := 1120) rfl dX0_witchesInAll_11 ?_
    refine lv_icmp_ge (tgt := 56) hx hb dX0_witchesInAll_12 (by decide) (fun c_2 => ?_) (fun c_2 => ?_)
    · have hi9 : K = i := (kEx1 hi hK9 c_2).symm
      subst hi9
      refine lv_iload_n hx hb dX0_witchesInAll_56 rfl (lv_at hl 2 rfl) ?_
      exact rd_iret hx hb hr hlocks (by rfl) dX0_witchesInAll_57
    · have hlt : i < 1120 := ltN (by omega) (by omega) rfl c_2
      refine lv_aload_n hx hb dX0_witchesInAll_15 rfl (lv_at hl 0 rfl) ?_
      refine va_get (D := D) (cl := vwCl) (ci := 0) (v := .ref hG) (C := RX0) (T := TX0) (N := 2) hx hb hts in_X0_witchesInAll_X0 hown hK hP 0 rfl rfl 0 (by decide) (hts (.fieldLink RX0 11 "WitchTrial$Book" "pages" "[I") (List.mem_of_getElem? (i := 1) rfl)) (fun _ h9 => h9) rfl dX0_witchesInAll_16 ?_
      refine lv_iload_n hx hb dX0_witchesInAll_19 rfl (lv_at hl 3 rfl) ?_
      refine q_iald (D := D) (j := i) (v := (g i)) hx hb hK hP 1 0 rfl rfl (by omega) (Nat.le_of_ble_eq_true rfl) rfl dX0_witchesInAll_20 ?_
      refine lv_if_eq (tgt := 56) hx hb dX0_witchesInAll_21 (by decide) (fun c_3 => ?_) (fun c_3 => ?_)
      · have hi9 : K = i := (kEx2 hi hg c_3).symm
        subst hi9
        refine lv_iload_n hx hb dX0_witchesInAll_56 rfl (lv_at hl 2 rfl) ?_
        exact rd_iret hx hb hr hlocks (by rfl) dX0_witchesInAll_57
      · have hlK : i < K := kEx3 hi hlt hz c_3
        refine lv_aload_n hx hb dX0_witchesInAll_24 rfl (lv_at hl 0 rfl) ?_
        refine lv_aload_n hx hb dX0_witchesInAll_25 rfl (lv_at hl 0 rfl) ?_
        refine va_get (D := D) (cl := vwCl) (ci := 0) (v := .ref hG) (C := RX0) (T := TX0) (N := 2) hx hb hts in_X0_witchesInAll_X0 hown hK hP 0 rfl rfl 0 (by decide) (hts (.fieldLink RX0 11 "WitchTrial$Book" "pages" "[I") (List.mem_of_getElem? (i := 1) rfl)) (fun _ h9 => h9) rfl dX0_witchesInAll_26 ?_
        refine lv_iload_n hx hb dX0_witchesInAll_29 rfl (lv_at hl 3 rfl) ?_
        refine q_iald (D := D) (j := i) (v := (g i)) hx hb hK hP 1 0 rfl rfl (by omega) (Nat.le_of_ble_eq_true rfl) rfl dX0_witchesInAll_30 ?_
        refine lv_iload_n hx hb dX0_witchesInAll_31 rfl (lv_at hl 1 rfl) ?_
        refine rd_V (b := hB) (As := [.int (g i), .int kn]) (rest := []) ⟨hx, hb, hml, hown, hts⟩ (c_X0_agrees l D cI cZ cJ hB hG tr (g i) kn) (cwV 2 hts gX0_witchesInAll_X0_agrees rfl rfl rfl (by decide +kernel) ⟨Nat.le_of_ble_eq_true rfl, Nat.le_of_ble_eq_true rfl⟩) (hP.sub (ws' := [cB hB hG tr]) [0] rfl) hK hN (va_recv hK hP (ci := 0) (q0 := 0) rfl rfl) rfl hl.1 rfl (Nat.le_of_ble_eq_true rfl) dX0_witchesInAll_32 ⟨Nat.le_of_ble_eq_true rfl, Nat.le_of_ble_eq_true rfl⟩ ?_
        refine lv_if_eq (tgt := 50) hx hb dX0_witchesInAll_35 (by decide) (fun c_4 => ?_) (fun c_4 => ?_)
        · have c_4 : (yAgr (g i) tr kn) = false := bI_0 c_4
          refine lv_iinc (v := (nI (i + 1))) (lv' := [(3, .int (nI (i + 1))), (0, .ref hB), (1, .int kn), (2, .int (yWa g tr kn i))]) hx hb dX0_witchesInAll_50 hl (k := 3) rfl (nI_1 i) (by decide) rfl (fun ls hl => ?_)
          refine lv_goto (tgt := 6) hx hb dX0_witchesInAll_53 (by decide) ?_
          have eb_0 : (yWa g tr kn (i + 1)) = (yWa g tr kn i) := by (first | rfl | (simp only [bI, yWa, c_2, c_3, c_4, eq_self, ↓reduceIte]; done) | (simp only [bI, yWa, c_2, c_3, c_4, eq_self, ↓reduceIte]; rfl) | simp [bI, yWa, c_2, c_3, c_4])
          exact ih_i (by omega) trivial ls (by show lv_has ls 4 [(0, .ref hB), (1, .int kn), (2, .int (yWa g tr kn (i + 1))), (3, .int (nI (i + 1)))]; rw [eb_0]; exact lv_sub hl [1, 2, 3, 0] rfl)
        · have c_4 : (yAgr (g i) tr kn) = true := bI_1 c_4
          refine lv_iload_n hx hb dX0_witchesInAll_38 rfl (lv_at hl 2 rfl) ?_
          refine lv_aload_n hx hb dX0_witchesInAll_39 rfl (lv_at hl 0 rfl) ?_
          refine va_get (D := D) (cl := vwCl) (ci := 0) (v := .ref hG) (C := RX0) (T := TX0) (N := 2) hx hb hts in_X0_witchesInAll_X0 hown hK hP 0 rfl rfl 0 (by decide) (hts (.fieldLink RX0 11 "WitchTrial$Book" "pages" "[I") (List.mem_of_getElem? (i := 1) rfl)) (fun _ h9 => h9) rfl dX0_witchesInAll_40 ?_
          refine lv_iload_n hx hb dX0_witchesInAll_43 rfl (lv_at hl 3 rfl) ?_
          refine q_iald (D := D) (j := i) (v := (g i)) hx hb hK hP 1 0 rfl rfl (by omega) (Nat.le_of_ble_eq_true rfl) rfl dX0_witchesInAll_44 ?_
          refine rd_SN (As := [.int (g i)]) (rest := [.int (yWa g tr kn i)]) ⟨hx, hb, hml, hown, hts⟩ (c_X1_witchesOf l D cI cZ cJ (g i)) ⟨va_cnB 1 hts gX0_witchesInAll_X1_witchesOf_n25 rfl rfl rfl (hN.link 2 rfl) (hts (.initialized RX1) (List.mem_of_getElem? (i := 9) rfl)) (by decide +kernel) ⟨Nat.le_of_ble_eq_true rfl, Nat.le_of_ble_eq_true rfl⟩, (hts (.static yX1_witchesOf) (List.mem_of_getElem? (i := 8) rfl)), trivial⟩ (hP.sub (ws' := []) [] rfl) hK hN rfl hl.1 rfl (Nat.le_of_ble_eq_true rfl) dX0_witchesInAll_45 ⟨Nat.le_of_ble_eq_true rfl, Nat.le_of_ble_eq_true rfl⟩ ?_
          refine lv_iand hx hb dX0_witchesInAll_48 ?_
          refine lv_istore_n (lv' := [(2, .int ((yWa g tr kn i) &&& ((g i) &&& 255))), (0, .ref hB), (1, .int kn), (3, .int (nI i))]) hx hb dX0_witchesInAll_49 rfl hl (by decide) rfl (fun ls hl => ?_)
          refine lv_iinc (v := (nI (i + 1))) (lv' := [(3, .int (nI (i + 1))), (2, .int ((yWa g tr kn i) &&& ((g i) &&& 255))), (0, .ref hB), (1, .int kn)]) hx hb dX0_witchesInAll_50 hl (k := 3) rfl (nI_1 i) (by decide) rfl (fun ls hl => ?_)
          refine lv_goto (tgt := 6) hx hb dX0_witchesInAll_53 (by decide) ?_
          have eb_0 : (yWa g tr kn (i + 1)) = ((yWa g tr kn i) &&& ((g i) &&& 255)) := by (first | rfl | (simp only [bI, yWa, c_2, c_3, c_4, eq_self, ↓reduceIte]; done) | (simp only [bI, yWa, c_2, c_3, c_4, eq_self, ↓reduceIte]; rfl) | simp [bI, yWa, c_2, c_3, c_4])
          exact ih_i (by omega) trivial ls (by show lv_has ls 4 [(0, .ref hB), (1, .int kn), (2, .int (yWa g tr kn (i + 1))), (3, .int (nI (i + 1)))]; rw [eb_0]; exact lv_sub hl [2, 3, 1, 0] rfl)
  · show lv_has ls 4 [(0, .ref hB), (1, .int kn), (2, .int (yWa g tr kn 0)), (3, .int (nI 0))]
    have en_0 : (yWa g tr kn 0) = 255 := by rfl
    rw [en_0]
    have en_1 : (nI 0) = 0 := by exact nI_0
    rw [en_1]
    exact lv_sub hl [2, 3, 1, 0] rfl

theorem in_X0_witchesInAny_X0 : ∀ w ∈ wsX00, w ∈ wsX0_witchesInAny := by decide +kernel
set_option maxHeartbeats 2000000 in
set_option maxRecDepth 100000 in
theorem c_X0_witchesInAny (l : Launch) (D : va_G) (cI cZ cJ : ClassId) (hB : Nat) (hG : Nat) (tr : Int32) (g : Nat → Int32) (kn : Int32) (K : Nat) (hK9 : K ≤ 1120) (hg : ∀ j, j < K → ¬ g j = 0) (hz : K < 1120 → g K = 0) : Rd l D cI cZ cJ yX0_witchesInAny wsX0_witchesInAny 1 22 [.ref hB, .int kn] [cB hB hG tr, cA cI hG 1120 g] (yWy g tr kn K) := by
  refine rd_of (by decide) rfl (Nat.le_of_ble_eq_true rfl) (fun p e s m below meth c ls hx hb hr hml hts hown hlocks hP hK hN hl => ?_)
  have hl : lv_has ls 4 [(0, .ref hB), (1, .int kn)] := hl
  refine lv_iconst (v := 0) hx hb dX0_witchesInAny_0 (by decide) ?_
  refine lv_istore_n (lv' := [(2, .int 0), (0, .ref hB), (1, .int kn)]) hx hb dX0_witchesInAny_1 rfl hl (by decide) rfl (fun ls hl => ?_)
  refine lv_iconst (v := 0) hx hb dX0_witchesInAny_2 (by decide) ?_
  refine lv_istore_n (lv' := [(3, .int 0), (2, .int 0), (0, .ref hB), (1, .int kn)]) hx hb dX0_witchesInAny_3 rfl hl (by decide) rfl (fun ls hl => ?_)
  refine loop_R (nL := 4) (h := 4) K (fun i => [(0, .ref hB), (1, .int kn), (2, .int (yWy g tr kn i)), (3, .int (nI i))]) (fun _ => True) (fun i hi hI ih_i ls hl => ?_) 0 (by omega) trivial ls ?_
  · have hl : lv_has ls 4 [(0, .ref hB), (1, .int kn), (2, .int (yWy g tr kn i)), (3, .int (nI i))] := hl
    refine lv_iload_n hx hb dX0_witchesInAny_4 rfl (lv_at hl 3 rfl) ?_
    refine lv_aload_n hx hb dX0_witchesInAny_5 rfl (lv_at hl 0 rfl) ?_
    refine va_get (D := D) (cl := vwCl) (ci := 0) (v := .ref hG) (C := RX0) (T := TX0) (N := 2) hx hb hts in_X0_witchesInAny_X0 hown hK hP 0 rfl rfl 0 (by decide) (hts (.fieldLink RX0 11 "WitchTrial$Book" "pages" "[I") (List.mem_of_getElem? (i := 1) rfl)) (fun _ h9 => h9) rfl dX0_witchesInAny_6 ?_
    refine va_alen (D := D) (cl := vwCl) hx hb hK hP 1 0 rfl rfl (v := 1120) rfl dX0_witchesInAny_9 ?_
    refine lv_icmp_ge (tgt := 54) hx hb dX0_witchesInAny_10 (by decide) (fun c_2 => ?_) (fun c_2 => ?_)
    · have hi9 : K = i := (kEx1 hi hK9 c_2).symm
      subst hi9
      refine lv_iload_n hx hb dX0_witchesInAny_54 rfl (lv_at hl 2 rfl) ?_
      exact rd_iret hx hb hr hlocks (by rfl) dX0_witchesInAny_55
    · have hlt : i < 1120 := ltN (by omega) (by omega) rfl c_2
      refine lv_aload_n hx hb dX0_witchesInAny_13 rfl (lv_at hl 0 rfl) ?_
      refine va_get (D := D) (cl := vwCl) (ci := 0) (v := .ref hG) (C := RX0) (T := TX0) (N := 2) hx hb hts in_X0_witchesInAny_X0 hown hK hP 0 rfl rfl 0 (by decide) (hts (.fieldLink RX0 11 "WitchTrial$Book" "pages" "[I") (List.mem_of_getElem? (i := 1) rfl)) (fun _ h9 => h9) rfl dX0_witchesInAny_14 ?_
      refine lv_iload_n hx hb dX0_witchesInAny_17 rfl (lv_at hl 3 rfl) ?_
      refine q_iald (D := D) (j := i) (v := (g i)) hx hb hK hP 1 0 rfl rfl (by omega) (Nat.le_of_ble_eq_true rfl) rfl dX0_witchesInAny_18 ?_
      refine lv_if_eq (tgt := 54) hx hb dX0_witchesInAny_19 (by decide) (fun c_3 => ?_) (fun c_3 => ?_)
      · have hi9 : K = i := (kEx2 hi hg c_3).symm
        subst hi9
        refine lv_iload_n hx hb dX0_witchesInAny_54 rfl (lv_at hl 2 rfl) ?_
        exact rd_iret hx hb hr hlocks (by rfl) dX0_witchesInAny_55
      · have hlK : i < K := kEx3 hi hlt hz c_3
        refine lv_aload_n hx hb dX0_witchesInAny_22 rfl (lv_at hl 0 rfl) ?_
        refine lv_aload_n hx hb dX0_witchesInAny_23 rfl (lv_at hl 0 rfl) ?_
        refine va_get (D := D) (cl := vwCl) (ci := 0) (v := .ref hG) (C := RX0) (T := TX0) (N := 2) hx hb hts in_X0_witchesInAny_X0 hown hK hP 0 rfl rfl 0 (by decide) (hts (.fieldLink RX0 11 "WitchTrial$Book" "pages" "[I") (List.mem_of_getElem? (i := 1) rfl)) (fun _ h9 => h9) rfl dX0_witchesInAny_24 ?_
        refine lv_iload_n hx hb dX0_witchesInAny_27 rfl (lv_at hl 3 rfl) ?_
        refine q_iald (D := D) (j := i) (v := (g i)) hx hb hK hP 1 0 rfl rfl (by omega) (Nat.le_of_ble_eq_true rfl) rfl dX0_witchesInAny_28 ?_
        refine lv_iload_n hx hb dX0_witchesInAny_29 rfl (lv_at hl 1 rfl) ?_
        refine rd_V (b := hB) (As := [.int (g i), .int kn]) (rest := []) ⟨hx, hb, hml, hown, hts⟩ (c_X0_agrees l D cI cZ cJ hB hG tr (g i) kn) (cwV 2 hts gX0_witchesInAny_X0_agrees rfl rfl rfl (by decide +kernel) ⟨Nat.le_of_ble_eq_true rfl, Nat.le_of_ble_eq_true rfl⟩) (hP.sub (ws' := [cB hB hG tr]) [0] rfl) hK hN (va_recv hK hP (ci := 0) (q0 := 0) rfl rfl) rfl hl.1 rfl (Nat.le_of_ble_eq_true rfl) dX0_witchesInAny_30 ⟨Nat.le_of_ble_eq_true rfl, Nat.le_of_ble_eq_true rfl⟩ ?_
        refine lv_if_eq (tgt := 48) hx hb dX0_witchesInAny_33 (by decide) (fun c_4 => ?_) (fun c_4 => ?_)
        · have c_4 : (yAgr (g i) tr kn) = false := bI_0 c_4
          refine lv_iinc (v := (nI (i + 1))) (lv' := [(3, .int (nI (i + 1))), (0, .ref hB), (1, .int kn), (2, .int (yWy g tr kn i))]) hx hb dX0_witchesInAny_48 hl (k := 3) rfl (nI_1 i) (by decide) rfl (fun ls hl => ?_)
          refine lv_goto (tgt := 4) hx hb dX0_witchesInAny_51 (by decide) ?_
          have eb_0 : (yWy g tr kn (i + 1)) = (yWy g tr kn i) := by (first | rfl | (simp only [bI, yWy, c_2, c_3, c_4, eq_self, ↓reduceIte]; done) | (simp only [bI, yWy, c_2, c_3, c_4, eq_self, ↓reduceIte]; rfl) | simp [bI, yWy, c_2, c_3, c_4])
          exact ih_i (by omega) trivial ls (by show lv_has ls 4 [(0, .ref hB), (1, .int kn), (2, .int (yWy g tr kn (i + 1))), (3, .int (nI (i + 1)))]; rw [eb_0]; exact lv_sub hl [1, 2, 3, 0] rfl)
        · have c_4 : (yAgr (g i) tr kn) = true := bI_1 c_4
          refine lv_iload_n hx hb dX0_witchesInAny_36 rfl (lv_at hl 2 rfl) ?_
          refine lv_aload_n hx hb dX0_witchesInAny_37 rfl (lv_at hl 0 rfl) ?_
          refine va_get (D := D) (cl := vwCl) (ci := 0) (v := .ref hG) (C := RX0) (T := TX0) (N := 2) hx hb hts in_X0_witchesInAny_X0 hown hK hP 0 rfl rfl 0 (by decide) (hts (.fieldLink RX0 11 "WitchTrial$Book" "pages" "[I") (List.mem_of_getElem? (i := 1) rfl)) (fun _ h9 => h9) rfl dX0_witchesInAny_38 ?_
          refine lv_iload_n hx hb dX0_witchesInAny_41 rfl (lv_at hl 3 rfl) ?_
          refine q_iald (D := D) (j := i) (v := (g i)) hx hb hK hP 1 0 rfl rfl (by omega) (Nat.le_of_ble_eq_true rfl) rfl dX0_witchesInAny_42 ?_
          refine rd_SN (As := [.int (g i)]) (rest := [.int (yWy g tr kn i)]) ⟨hx, hb, hml, hown, hts⟩ (c_X1_witchesOf l D cI cZ cJ (g i)) ⟨va_cnB 1 hts gX0_witchesInAny_X1_witchesOf_n25 rfl rfl rfl (hN.link 2 rfl) (hts (.initialized RX1) (List.mem_of_getElem? (i := 9) rfl)) (by decide +kernel) ⟨Nat.le_of_ble_eq_true rfl, Nat.le_of_ble_eq_true rfl⟩, (hts (.static yX1_witchesOf) (List.mem_of_getElem? (i := 8) rfl)), trivial⟩ (hP.sub (ws' := []) [] rfl) hK hN rfl hl.1 rfl (Nat.le_of_ble_eq_true rfl) dX0_witchesInAny_43 ⟨Nat.le_of_ble_eq_true rfl, Nat.le_of_ble_eq_true rfl⟩ ?_
          refine lv_ior hx hb dX0_witchesInAny_46 ?_
          refine lv_istore_n (lv' := [(2, .int ((yWy g tr kn i) ||| ((g i) &&& 255))), (0, .ref hB), (1, .int kn), (3, .int (nI i))]) hx hb dX0_witchesInAny_47 rfl hl (by decide) rfl (fun ls hl => ?_)
          refine lv_iinc (v := (nI (i + 1))) (lv' := [(3, .int (nI (i + 1))), (2, .int ((yWy g tr kn i) ||| ((g i) &&& 255))), (0, .ref hB), (1, .int kn)]) hx hb dX0_witchesInAny_48 hl (k := 3) rfl (nI_1 i) (by decide) rfl (fun ls hl => ?_)
          refine lv_goto (tgt := 4) hx hb dX0_witchesInAny_51 (by decide) ?_
          have eb_0 : (yWy g tr kn (i + 1)) = ((yWy g tr kn i) ||| ((g i) &&& 255)) := by (first | rfl | (simp only [bI, yWy, c_2, c_3, c_4, eq_self, ↓reduceIte]; done) | (simp only [bI, yWy, c_2, c_3, c_4, eq_self, ↓reduceIte]; rfl) | simp [bI, yWy, c_2, c_3, c_4])
          exact ih_i (by omega) trivial ls (by show lv_has ls 4 [(0, .ref hB), (1, .int kn), (2, .int (yWy g tr kn (i + 1))), (3, .int (nI (i + 1)))]; rw [eb_0]; exact lv_sub hl [2, 3, 1, 0] rfl)
  · show lv_has ls 4 [(0, .ref hB), (1, .int kn), (2, .int (yWy g tr kn 0)), (3, .int (nI 0))]
    have en_0 : (yWy g tr kn 0) = 0 := by rfl
    rw [en_0]
    have en_1 : (nI 0) = 0 := by exact nI_0
    rw [en_1]
    exact lv_sub hl [2, 3, 1, 0] rfl

theorem in_X0_countWitchSets_X0 : ∀ w ∈ wsX00, w ∈ wsX0_countWitchSets := by decide +kernel
set_option maxHeartbeats 2000000 in
set_option maxRecDepth 100000 in
theorem c_X0_countWitchSets (l : Launch) (D : va_G) (cI cZ cJ : ClassId) (hB : Nat) (hG : Nat) (tr : Int32) (g : Nat → Int32) (kn : Int32) (K : Nat) (hK9 : K ≤ 1120) (hg : ∀ j, j < K → ¬ g j = 0) (hz : K < 1120 → g K = 0) : Rd l D cI cZ cJ yX0_countWitchSets wsX0_countWitchSets 1 22 [.ref hB, .int kn] [cB hB hG tr, cA cI hG 1120 g] ((yCs g tr kn K).1) := by
  refine rd_of (by decide) rfl (Nat.le_of_ble_eq_true rfl) (fun p e s m below meth c ls hx hb hr hml hts hown hlocks hP hK hN hl => ?_)
  have hl : lv_has ls 5 [(0, .ref hB), (1, .int kn)] := hl
  refine lv_iconst (v := 0) hx hb dX0_countWitchSets_0 (by decide) ?_
  refine lv_istore_n (lv' := [(2, .int 0), (0, .ref hB), (1, .int kn)]) hx hb dX0_countWitchSets_1 rfl hl (by decide) rfl (fun ls hl => ?_)
  refine lv_iconst (v := 0) hx hb dX0_countWitchSets_2 (by decide) ?_
  refine lv_istore_n (lv' := [(3, .int 0), (2, .int 0), (0, .ref hB), (1, .int kn)]) hx hb dX0_countWitchSets_3 rfl hl (by decide) rfl (fun ls hl => ?_)
  refine lv_iconst (v := 0) hx hb dX0_countWitchSets_4 (by decide) ?_
  refine lv_istore (lv' := [(4, .int 0), (3, .int 0), (2, .int 0), (0, .ref hB), (1, .int kn)]) hx hb dX0_countWitchSets_5 hl (by decide) rfl (fun ls hl => ?_)
  refine loop_R (nL := 5) (h := 7) K (fun i => [(0, .ref hB), (1, .int kn), (2, .int ((yCs g tr kn i).1)), (3, .int ((yCs g tr kn i).2)), (4, .int (nI i))]) (fun _ => True) (fun i hi hI ih_i ls hl => ?_) 0 (by omega) trivial ls ?_
  · have hl : lv_has ls 5 [(0, .ref hB), (1, .int kn), (2, .int ((yCs g tr kn i).1)), (3, .int ((yCs g tr kn i).2)), (4, .int (nI i))] := hl
    refine lv_iload hx hb dX0_countWitchSets_7 (lv_at hl 4 rfl) ?_
    refine lv_aload_n hx hb dX0_countWitchSets_9 rfl (lv_at hl 0 rfl) ?_
    refine va_get (D := D) (cl := vwCl) (ci := 0) (v := .ref hG) (C := RX0) (T := TX0) (N := 2) hx hb hts in_X0_countWitchSets_X0 hown hK hP 0 rfl rfl 0 (by decide) (hts (.fieldLink RX0 11 "WitchTrial$Book" "pages" "[I") (List.mem_of_getElem? (i := 1) rfl)) (fun _ h9 => h9) rfl dX0_countWitchSets_10 ?_
    refine va_alen (D := D) (cl := vwCl) hx hb hK hP 1 0 rfl rfl (v := 1120) rfl dX0_countWitchSets_13 ?_
    refine lv_icmp_ge (tgt := 76) hx hb dX0_countWitchSets_14 (by decide) (fun c_2 => ?_) (fun c_2 => ?_)
    · have hi9 : K = i := (kEx1 hi hK9 c_2).symm
      subst hi9
      refine lv_iload_n hx hb dX0_countWitchSets_76 rfl (lv_at hl 2 rfl) ?_
      exact rd_iret hx hb hr hlocks (by rfl) dX0_countWitchSets_77
    · have hlt : i < 1120 := ltN (by omega) (by omega) rfl c_2
      refine lv_aload_n hx hb dX0_countWitchSets_17 rfl (lv_at hl 0 rfl) ?_
      refine va_get (D := D) (cl := vwCl) (ci := 0) (v := .ref hG) (C := RX0) (T := TX0) (N := 2) hx hb hts in_X0_countWitchSets_X0 hown hK hP 0 rfl rfl 0 (by decide) (hts (.fieldLink RX0 11 "WitchTrial$Book" "pages" "[I") (List.mem_of_getElem? (i := 1) rfl)) (fun _ h9 => h9) rfl dX0_countWitchSets_18 ?_
      refine lv_iload hx hb dX0_countWitchSets_21 (lv_at hl 4 rfl) ?_
      refine q_iald (D := D) (j := i) (v := (g i)) hx hb hK hP 1 0 rfl rfl (by omega) (Nat.le_of_ble_eq_true rfl) rfl dX0_countWitchSets_23 ?_
      refine lv_if_eq (tgt := 76) hx hb dX0_countWitchSets_24 (by decide) (fun c_3 => ?_) (fun c_3 => ?_)
      · have hi9 : K = i := (kEx2 hi hg c_3).symm
        subst hi9
        refine lv_iload_n hx hb dX0_countWitchSets_76 rfl (lv_at hl 2 rfl) ?_
        exact rd_iret hx hb hr hlocks (by rfl) dX0_countWitchSets_77
      · have hlK : i < K := kEx3 hi hlt hz c_3
        refine lv_aload_n hx hb dX0_countWitchSets_27 rfl (lv_at hl 0 rfl) ?_
        refine lv_aload_n hx hb dX0_countWitchSets_28 rfl (lv_at hl 0 rfl) ?_
        refine va_get (D := D) (cl := vwCl) (ci := 0) (v := .ref hG) (C := RX0) (T := TX0) (N := 2) hx hb hts in_X0_countWitchSets_X0 hown hK hP 0 rfl rfl 0 (by decide) (hts (.fieldLink RX0 11 "WitchTrial$Book" "pages" "[I") (List.mem_of_getElem? (i := 1) rfl)) (fun _ h9 => h9) rfl dX0_countWitchSets_29 ?_
        refine lv_iload hx hb dX0_countWitchSets_32 (lv_at hl 4 rfl) ?_
        refine q_iald (D := D) (j := i) (v := (g i)) hx hb hK hP 1 0 rfl rfl (by omega) (Nat.le_of_ble_eq_true rfl) rfl dX0_countWitchSets_34 ?_
        refine lv_iload_n hx hb dX0_countWitchSets_35 rfl (lv_at hl 1 rfl) ?_
        refine rd_V (b := hB) (As := [.int (g i), .int kn]) (rest := []) ⟨hx, hb, hml, hown, hts⟩ (c_X0_agrees l D cI cZ cJ hB hG tr (g i) kn) (cwV 2 hts gX0_countWitchSets_X0_agrees rfl rfl rfl (by decide +kernel) ⟨Nat.le_of_ble_eq_true rfl, Nat.le_of_ble_eq_true rfl⟩) (hP.sub (ws' := [cB hB hG tr]) [0] rfl) hK hN (va_recv hK hP (ci := 0) (q0 := 0) rfl rfl) rfl hl.1 rfl (Nat.le_of_ble_eq_true rfl) dX0_countWitchSets_36 ⟨Nat.le_of_ble_eq_true rfl, Nat.le_of_ble_eq_true rfl⟩ ?_
        refine lv_if_eq (tgt := 70) hx hb dX0_countWitchSets_39 (by decide) (fun c_4 => ?_) (fun c_4 => ?_)
        · have c_4 : (yAgr (g i) tr kn) = false := bI_0 c_4
          refine lv_iinc (v := (nI (i + 1))) (lv' := [(4, .int (nI (i + 1))), (0, .ref hB), (1, .int kn), (2, .int ((yCs g tr kn i).1)), (3, .int ((yCs g tr kn i).2))]) hx hb dX0_countWitchSets_70 hl (k := 4) rfl (nI_1 i) (by decide) rfl (fun ls hl => ?_)
          refine lv_goto (tgt := 7) hx hb dX0_countWitchSets_73 (by decide) ?_
          have eb_0 : (yCs g tr kn (i + 1)).1 = (yCs g tr kn i).1 := by (first | rfl | (simp only [bI, yCs, c_2, c_3, c_4, eq_self, ↓reduceIte]; done) | (simp only [bI, yCs, c_2, c_3, c_4, eq_self, ↓reduceIte]; rfl) | simp [bI, yCs, c_2, c_3, c_4])
          have eb_1 : (yCs g tr kn (i + 1)).2 = (yCs g tr kn i).2 := by (first | rfl | (simp only [bI, yCs, c_2, c_3, c_4, eq_self, ↓reduceIte]; done) | (simp only [bI, yCs, c_2, c_3, c_4, eq_self, ↓reduceIte]; rfl) | simp [bI, yCs, c_2, c_3, c_4])
          exact ih_i (by omega) trivial ls (by show lv_has ls 5 [(0, .ref hB), (1, .int kn), (2, .int ((yCs g tr kn (i + 1)).1)), (3, .int ((yCs g tr kn (i + 1)).2)), (4, .int (nI (i + 1)))]; rw [eb_0]; rw [eb_1]; exact lv_sub hl [1, 2, 3, 4, 0] rfl)
        · have c_4 : (yAgr (g i) tr kn) = true := bI_1 c_4
          refine lv_aload_n hx hb dX0_countWitchSets_42 rfl (lv_at hl 0 rfl) ?_
          refine va_get (D := D) (cl := vwCl) (ci := 0) (v := .ref hG) (C := RX0) (T := TX0) (N := 2) hx hb hts in_X0_countWitchSets_X0 hown hK hP 0 rfl rfl 0 (by decide) (hts (.fieldLink RX0 11 "WitchTrial$Book" "pages" "[I") (List.mem_of_getElem? (i := 1) rfl)) (fun _ h9 => h9) rfl dX0_countWitchSets_43 ?_
          refine lv_iload hx hb dX0_countWitchSets_46 (lv_at hl 4 rfl) ?_
          refine q_iald (D := D) (j := i) (v := (g i)) hx hb hK hP 1 0 rfl rfl (by omega) (Nat.le_of_ble_eq_true rfl) rfl dX0_countWitchSets_48 ?_
          refine rd_SN (As := [.int (g i)]) (rest := []) ⟨hx, hb, hml, hown, hts⟩ (c_X1_witchesOf l D cI cZ cJ (g i)) ⟨va_cnB 1 hts gX0_countWitchSets_X1_witchesOf_n25 rfl rfl rfl (hN.link 2 rfl) (hts (.initialized RX1) (List.mem_of_getElem? (i := 9) rfl)) (by decide +kernel) ⟨Nat.le_of_ble_eq_true rfl, Nat.le_of_ble_eq_true rfl⟩, (hts (.static yX1_witchesOf) (List.mem_of_getElem? (i := 8) rfl)), trivial⟩ (hP.sub (ws' := []) [] rfl) hK hN rfl hl.1 rfl (Nat.le_of_ble_eq_true rfl) dX0_countWitchSets_49 ⟨Nat.le_of_ble_eq_true rfl, Nat.le_of_ble_eq_true rfl⟩ ?_
          refine lv_iload_n hx hb dX0_countWitchSets_52 rfl (lv_at hl 3 rfl) ?_
          refine lv_icmp_eq (tgt := 70) hx hb dX0_countWitchSets_53 (by decide) (fun c_5 => ?_) (fun c_5 => ?_)
          · refine lv_iinc (v := (nI (i + 1))) (lv' := [(4, .int (nI (i + 1))), (0, .ref hB), (1, .int kn), (2, .int ((yCs g tr kn i).1)), (3, .int ((yCs g tr kn i).2))]) hx hb dX0_countWitchSets_70 hl (k := 4) rfl (nI_1 i) (by decide) rfl (fun ls hl => ?_)
            refine lv_goto (tgt := 7) hx hb dX0_countWitchSets_73 (by decide) ?_
            have eb_0 : (yCs g tr kn (i + 1)).1 = (yCs g tr kn i).1 := by (first | rfl | (simp only [bI, yCs, c_2, c_3, c_4, c_5, eq_self, ↓reduceIte]; done) | (simp only [bI, yCs, c_2, c_3, c_4, c_5, eq_self, ↓reduceIte]; rfl) | (simp only [bI, yCs, c_2, c_3, c_4, eq_true c_5, eq_self, ↓reduceIte]; done) | (simp only [bI, yCs, c_2, c_3, c_4, eq_true c_5, eq_self, ↓reduceIte]; rfl) | (simp [bI, yCs, c_2, c_3, c_4, eq_true c_5]; done) | simp [bI, yCs, c_2, c_3, c_4, c_5])
            have eb_1 : (yCs g tr kn (i + 1)).2 = (yCs g tr kn i).2 := by (first | rfl | (simp only [bI, yCs, c_2, c_3, c_4, c_5, eq_self, ↓reduceIte]; done) | (simp only [bI, yCs, c_2, c_3, c_4, c_5, eq_self, ↓reduceIte]; rfl) | (simp only [bI, yCs, c_2, c_3, c_4, eq_true c_5, eq_self, ↓reduceIte]; done) | (simp only [bI, yCs, c_2, c_3, c_4, eq_true c_5, eq_self, ↓reduceIte]; rfl) | (simp [bI, yCs, c_2, c_3, c_4, eq_true c_5]; done) | simp [bI, yCs, c_2, c_3, c_4, c_5])
            exact ih_i (by omega) trivial ls (by show lv_has ls 5 [(0, .ref hB), (1, .int kn), (2, .int ((yCs g tr kn (i + 1)).1)), (3, .int ((yCs g tr kn (i + 1)).2)), (4, .int (nI (i + 1)))]; rw [eb_0]; rw [eb_1]; exact lv_sub hl [1, 2, 3, 4, 0] rfl)
          · refine lv_aload_n hx hb dX0_countWitchSets_56 rfl (lv_at hl 0 rfl) ?_
            refine va_get (D := D) (cl := vwCl) (ci := 0) (v := .ref hG) (C := RX0) (T := TX0) (N := 2) hx hb hts in_X0_countWitchSets_X0 hown hK hP 0 rfl rfl 0 (by decide) (hts (.fieldLink RX0 11 "WitchTrial$Book" "pages" "[I") (List.mem_of_getElem? (i := 1) rfl)) (fun _ h9 => h9) rfl dX0_countWitchSets_57 ?_
            refine lv_iload hx hb dX0_countWitchSets_60 (lv_at hl 4 rfl) ?_
            refine q_iald (D := D) (j := i) (v := (g i)) hx hb hK hP 1 0 rfl rfl (by omega) (Nat.le_of_ble_eq_true rfl) rfl dX0_countWitchSets_62 ?_
            refine rd_SN (As := [.int (g i)]) (rest := []) ⟨hx, hb, hml, hown, hts⟩ (c_X1_witchesOf l D cI cZ cJ (g i)) ⟨va_cnB 1 hts gX0_countWitchSets_X1_witchesOf_n25 rfl rfl rfl (hN.link 2 rfl) (hts (.initialized RX1) (List.mem_of_getElem? (i := 9) rfl)) (by decide +kernel) ⟨Nat.le_of_ble_eq_true rfl, Nat.le_of_ble_eq_true rfl⟩, (hts (.static yX1_witchesOf) (List.mem_of_getElem? (i := 8) rfl)), trivial⟩ (hP.sub (ws' := []) [] rfl) hK hN rfl hl.1 rfl (Nat.le_of_ble_eq_true rfl) dX0_countWitchSets_63 ⟨Nat.le_of_ble_eq_true rfl, Nat.le_of_ble_eq_true rfl⟩ ?_
            refine lv_istore_n (lv' := [(3, .int ((g i) &&& 255)), (0, .ref hB), (1, .int kn), (2, .int ((yCs g tr kn i).1)), (4, .int (nI i))]) hx hb dX0_countWitchSets_66 rfl hl (by decide) rfl (fun ls hl => ?_)
            refine lv_iinc (v := ((yCs g tr kn i).1 + 1)) (lv' := [(2, .int ((yCs g tr kn i).1 + 1)), (3, .int ((g i) &&& 255)), (0, .ref hB), (1, .int kn), (4, .int (nI i))]) hx hb dX0_countWitchSets_67 hl (k := 3) rfl rfl (by decide) rfl (fun ls hl => ?_)
            refine lv_iinc (v := (nI (i + 1))) (lv' := [(4, .int (nI (i + 1))), (2, .int ((yCs g tr kn i).1 + 1)), (3, .int ((g i) &&& 255)), (0, .ref hB), (1, .int kn)]) hx hb dX0_countWitchSets_70 hl (k := 4) rfl (nI_1 i) (by decide) rfl (fun ls hl => ?_)
            refine lv_goto (tgt := 7) hx hb dX0_countWitchSets_73 (by decide) ?_
            have eb_0 : (yCs g tr kn (i + 1)).1 = ((yCs g tr kn i).1 + 1) := by (first | rfl | (simp only [bI, yCs, c_2, c_3, c_4, c_5, eq_self, ↓reduceIte]; done) | (simp only [bI, yCs, c_2, c_3, c_4, c_5, eq_self, ↓reduceIte]; rfl) | simp [bI, yCs, c_2, c_3, c_4, c_5])
            have eb_1 : (yCs g tr kn (i + 1)).2 = ((g i) &&& 255) := by (first | rfl | (simp only [bI, yCs, c_2, c_3, c_4, c_5, eq_self, ↓reduceIte]; done) | (simp only [bI, yCs, c_2, c_3, c_4, c_5, eq_self, ↓reduceIte]; rfl) | simp [bI, yCs, c_2, c_3, c_4, c_5])
            exact ih_i (by omega) trivial ls (by show lv_has ls 5 [(0, .ref hB), (1, .int kn), (2, .int ((yCs g tr kn (i + 1)).1)), (3, .int ((yCs g tr kn (i + 1)).2)), (4, .int (nI (i + 1)))]; rw [eb_0]; rw [eb_1]; exact lv_sub hl [3, 4, 1, 2, 0] rfl)
  · show lv_has ls 5 [(0, .ref hB), (1, .int kn), (2, .int ((yCs g tr kn 0).1)), (3, .int ((yCs g tr kn 0).2)), (4, .int (nI 0))]
    have en_0 : (yCs g tr kn 0).1 = 0 := by rfl
    rw [en_0]
    have en_1 : (yCs g tr kn 0).2 = 0 := by rfl
    rw [en_1]
    have en_2 : (nI 0) = 0 := by exact nI_0
    rw [en_2]
    exact lv_sub hl [3, 4, 2, 1, 0] rfl

theorem in_X0_contains_X0 : ∀ w ∈ wsX00, w ∈ wsX0_contains := by decide +kernel
set_option maxHeartbeats 2000000 in
set_option maxRecDepth 100000 in
theorem c_X0_contains (l : Launch) (D : va_G) (cI cZ cJ : ClassId) (hB : Nat) (hG : Nat) (tr : Int32) (g : Nat → Int32) (wd : Int32) (kn : Int32) (K : Nat) (hK9 : K ≤ 1120) (hg : ∀ j, j < K → ¬ g j = 0) (hz : K < 1120 → g K = 0) : Rd l D cI cZ cJ yX0_contains wsX0_contains 1 22 [.ref hB, .int wd, .int kn] [cB hB hG tr, cA cI hG 1120 g] (bI (yHs g wd K && yAgr wd tr kn)) := by
  refine rd_of (by decide) rfl (Nat.le_of_ble_eq_true rfl) (fun p e s m below meth c ls hx hb hr hml hts hown hlocks hP hK hN hl => ?_)
  have hl : lv_has ls 4 [(0, .ref hB), (1, .int wd), (2, .int kn)] := hl
  refine lv_iconst (v := 0) hx hb dX0_contains_0 (by decide) ?_
  refine lv_istore_n (lv' := [(3, .int 0), (0, .ref hB), (1, .int wd), (2, .int kn)]) hx hb dX0_contains_1 rfl hl (by decide) rfl (fun ls hl => ?_)
  refine loop_R (nL := 4) (h := 2) K (fun i => [(0, .ref hB), (1, .int wd), (2, .int kn), (3, .int (nI i))]) (fun i => yHs g wd i = false) (fun i hi hI ih_i ls hl => ?_) 0 (by omega) rfl ls ?_
  · have hl : lv_has ls 4 [(0, .ref hB), (1, .int wd), (2, .int kn), (3, .int (nI i))] := hl
    refine lv_iload_n hx hb dX0_contains_2 rfl (lv_at hl 3 rfl) ?_
    refine lv_aload_n hx hb dX0_contains_3 rfl (lv_at hl 0 rfl) ?_
    refine va_get (D := D) (cl := vwCl) (ci := 0) (v := .ref hG) (C := RX0) (T := TX0) (N := 2) hx hb hts in_X0_contains_X0 hown hK hP 0 rfl rfl 0 (by decide) (hts (.fieldLink RX0 11 "WitchTrial$Book" "pages" "[I") (List.mem_of_getElem? (i := 1) rfl)) (fun _ h9 => h9) rfl dX0_contains_4 ?_
    refine va_alen (D := D) (cl := vwCl) hx hb hK hP 1 0 rfl rfl (v := 1120) rfl dX0_contains_7 ?_
    refine lv_icmp_ge (tgt := 43) hx hb dX0_contains_8 (by decide) (fun c_2 => ?_) (fun c_2 => ?_)
    · have hi9 : K = i := (kEx1 hi hK9 c_2).symm
      subst hi9
      refine lv_iconst (v := 0) hx hb dX0_contains_43 (by decide) ?_
      exact rd_zret hx hb hr hlocks (by simp [hI, bI]) rfl dX0_contains_44
    · have hlt : i < 1120 := ltN (by omega) (by omega) rfl c_2
      refine lv_aload_n hx hb dX0_contains_11 rfl (lv_at hl 0 rfl) ?_
      refine va_get (D := D) (cl := vwCl) (ci := 0) (v := .ref hG) (C := RX0) (T := TX0) (N := 2) hx hb hts in_X0_contains_X0 hown hK hP 0 rfl rfl 0 (by decide) (hts (.fieldLink RX0 11 "WitchTrial$Book" "pages" "[I") (List.mem_of_getElem? (i := 1) rfl)) (fun _ h9 => h9) rfl dX0_contains_12 ?_
      refine lv_iload_n hx hb dX0_contains_15 rfl (lv_at hl 3 rfl) ?_
      refine q_iald (D := D) (j := i) (v := (g i)) hx hb hK hP 1 0 rfl rfl (by omega) (Nat.le_of_ble_eq_true rfl) rfl dX0_contains_16 ?_
      refine lv_if_eq (tgt := 43) hx hb dX0_contains_17 (by decide) (fun c_3 => ?_) (fun c_3 => ?_)
      · have hi9 : K = i := (kEx2 hi hg c_3).symm
        subst hi9
        refine lv_iconst (v := 0) hx hb dX0_contains_43 (by decide) ?_
        exact rd_zret hx hb hr hlocks (by simp [hI, bI]) rfl dX0_contains_44
      · have hlK : i < K := kEx3 hi hlt hz c_3
        refine lv_aload_n hx hb dX0_contains_20 rfl (lv_at hl 0 rfl) ?_
        refine va_get (D := D) (cl := vwCl) (ci := 0) (v := .ref hG) (C := RX0) (T := TX0) (N := 2) hx hb hts in_X0_contains_X0 hown hK hP 0 rfl rfl 0 (by decide) (hts (.fieldLink RX0 11 "WitchTrial$Book" "pages" "[I") (List.mem_of_getElem? (i := 1) rfl)) (fun _ h9 => h9) rfl dX0_contains_21 ?_
        refine lv_iload_n hx hb dX0_contains_24 rfl (lv_at hl 3 rfl) ?_
        refine q_iald (D := D) (j := i) (v := (g i)) hx hb hK hP 1 0 rfl rfl (by omega) (Nat.le_of_ble_eq_true rfl) rfl dX0_contains_25 ?_
        refine lv_iload_n hx hb dX0_contains_26 rfl (lv_at hl 1 rfl) ?_
        refine lv_icmp_ne (tgt := 37) hx hb dX0_contains_27 (by decide) (fun c_4 => ?_) (fun c_4 => ?_)
        · refine lv_iinc (v := (nI (i + 1))) (lv' := [(3, .int (nI (i + 1))), (0, .ref hB), (1, .int wd), (2, .int kn)]) hx hb dX0_contains_37 hl (k := 3) rfl (nI_1 i) (by decide) rfl (fun ls hl => ?_)
          refine lv_goto (tgt := 2) hx hb dX0_contains_40 (by decide) ?_
          exact ih_i (by omega) (by simp [yHs, hI, c_4]) ls (by show lv_has ls 4 [(0, .ref hB), (1, .int wd), (2, .int kn), (3, .int (nI (i + 1)))]; exact lv_sub hl [1, 2, 3, 0] rfl)
        · refine lv_aload_n hx hb dX0_contains_30 rfl (lv_at hl 0 rfl) ?_
          refine lv_iload_n hx hb dX0_contains_31 rfl (lv_at hl 1 rfl) ?_
          refine lv_iload_n hx hb dX0_contains_32 rfl (lv_at hl 2 rfl) ?_
          refine rd_V (b := hB) (As := [.int wd, .int kn]) (rest := []) ⟨hx, hb, hml, hown, hts⟩ (c_X0_agrees l D cI cZ cJ hB hG tr wd kn) (cwV 2 hts gX0_contains_X0_agrees rfl rfl rfl (by decide +kernel) ⟨Nat.le_of_ble_eq_true rfl, Nat.le_of_ble_eq_true rfl⟩) (hP.sub (ws' := [cB hB hG tr]) [0] rfl) hK hN (va_recv hK hP (ci := 0) (q0 := 0) rfl rfl) rfl hl.1 rfl (Nat.le_of_ble_eq_true rfl) dX0_contains_33 ⟨Nat.le_of_ble_eq_true rfl, Nat.le_of_ble_eq_true rfl⟩ ?_
          exact rd_zret hx hb hr hlocks (by simp [yHs_of c_4 K (by omega)]) (bI_nar _) dX0_contains_36
  · show lv_has ls 4 [(0, .ref hB), (1, .int wd), (2, .int kn), (3, .int (nI 0))]
    have en_0 : (nI 0) = 0 := by exact nI_0
    rw [en_0]
    exact lv_sub hl [1, 2, 3, 0] rfl
end
