section
-- ===== PART A: goes FIRST, ahead of the names: the tables' words, and 'selects' of the private methods out of them =====
/-- a private method of a class that the tables say can be made, by its rows of tables_1 -/
def lw_okq (q : MethodName × Nat) : Prop := (q.1.cls ≠ "java/lang/invoke/MethodHandle" ∧ q.1.cls ≠ "java/lang/invoke/VarHandle") ∧ Cond.instantiable q.1.cls q.2 ∈ tables_1 ∧ Cond.privateMethod q.1 ∈ tables_1 ∧ Cond.instanceMethod q.1 ∈ tables_1
theorem lw_p0 : lw_okq (⟨"java/lang/Throwable", "fillInStackTrace", "(I)Ljava/lang/Throwable;"⟩, 6) := ⟨⟨by decide +kernel, by decide +kernel⟩, List.mem_of_getElem? (i := 149) (by decide +kernel), List.mem_of_getElem? (i := 147) (by decide +kernel), List.mem_of_getElem? (i := 148) (by decide +kernel)⟩
theorem lw_p1 : lw_okq (⟨"WitchTrial", "forgetVotes", "()V"⟩, 14) := ⟨⟨by decide +kernel, by decide +kernel⟩, List.mem_of_getElem? (i := 15) (by decide +kernel), List.mem_of_getElem? (i := 179) (by decide +kernel), List.mem_of_getElem? (i := 180) (by decide +kernel)⟩
theorem lw_p2 : lw_okq (⟨"WitchTrial", "forgetChoices", "()V"⟩, 14) := ⟨⟨by decide +kernel, by decide +kernel⟩, List.mem_of_getElem? (i := 15) (by decide +kernel), List.mem_of_getElem? (i := 186) (by decide +kernel), List.mem_of_getElem? (i := 187) (by decide +kernel)⟩
theorem lw_p3 : lw_okq (⟨"WitchTrial$Book", "open", "(II)V"⟩, 2) := ⟨⟨by decide +kernel, by decide +kernel⟩, List.mem_of_getElem? (i := 23) (by decide +kernel), List.mem_of_getElem? (i := 193) (by decide +kernel), List.mem_of_getElem? (i := 194) (by decide +kernel)⟩
theorem lw_p4 : lw_okq (⟨"WitchTrial$Book", "addWorlds", "(III)I"⟩, 2) := ⟨⟨by decide +kernel, by decide +kernel⟩, List.mem_of_getElem? (i := 23) (by decide +kernel), List.mem_of_getElem? (i := 203) (by decide +kernel), List.mem_of_getElem? (i := 204) (by decide +kernel)⟩
theorem lw_p5 : lw_okq (⟨"WitchTrial", "knownBits", "(I)I"⟩, 14) := ⟨⟨by decide +kernel, by decide +kernel⟩, List.mem_of_getElem? (i := 15) (by decide +kernel), List.mem_of_getElem? (i := 209) (by decide +kernel), List.mem_of_getElem? (i := 210) (by decide +kernel)⟩
theorem lw_p6 : lw_okq (⟨"WitchTrial", "isWitch", "(I)Z"⟩, 14) := ⟨⟨by decide +kernel, by decide +kernel⟩, List.mem_of_getElem? (i := 15) (by decide +kernel), List.mem_of_getElem? (i := 216) (by decide +kernel), List.mem_of_getElem? (i := 217) (by decide +kernel)⟩
theorem lw_p7 : lw_okq (⟨"WitchTrial$Book", "count", "(I)I"⟩, 2) := ⟨⟨by decide +kernel, by decide +kernel⟩, List.mem_of_getElem? (i := 23) (by decide +kernel), List.mem_of_getElem? (i := 220) (by decide +kernel), List.mem_of_getElem? (i := 221) (by decide +kernel)⟩
theorem lw_p8 : lw_okq (⟨"WitchTrial$Book", "agrees", "(II)Z"⟩, 2) := ⟨⟨by decide +kernel, by decide +kernel⟩, List.mem_of_getElem? (i := 23) (by decide +kernel), List.mem_of_getElem? (i := 224) (by decide +kernel), List.mem_of_getElem? (i := 225) (by decide +kernel)⟩
theorem lw_p9 : lw_okq (⟨"WitchTrial", "requireGame", "()V"⟩, 14) := ⟨⟨by decide +kernel, by decide +kernel⟩, List.mem_of_getElem? (i := 15) (by decide +kernel), List.mem_of_getElem? (i := 238) (by decide +kernel), List.mem_of_getElem? (i := 239) (by decide +kernel)⟩
theorem lw_p10 : lw_okq (⟨"WitchTrial", "requirePlayer", "(I)V"⟩, 14) := ⟨⟨by decide +kernel, by decide +kernel⟩, List.mem_of_getElem? (i := 15) (by decide +kernel), List.mem_of_getElem? (i := 258) (by decide +kernel), List.mem_of_getElem? (i := 259) (by decide +kernel)⟩
theorem lw_p11 : lw_okq (⟨"WitchTrial", "makeClaim", "(IIZ)I"⟩, 14) := ⟨⟨by decide +kernel, by decide +kernel⟩, List.mem_of_getElem? (i := 15) (by decide +kernel), List.mem_of_getElem? (i := 285) (by decide +kernel), List.mem_of_getElem? (i := 286) (by decide +kernel)⟩
theorem lw_p12 : lw_okq (⟨"WitchTrial", "isAlive", "(I)Z"⟩, 14) := ⟨⟨by decide +kernel, by decide +kernel⟩, List.mem_of_getElem? (i := 15) (by decide +kernel), List.mem_of_getElem? (i := 289) (by decide +kernel), List.mem_of_getElem? (i := 290) (by decide +kernel)⟩
theorem lw_p13 : lw_okq (⟨"WitchTrial$Book", "allowsClaim", "(IIZ)Z"⟩, 2) := ⟨⟨by decide +kernel, by decide +kernel⟩, List.mem_of_getElem? (i := 23) (by decide +kernel), List.mem_of_getElem? (i := 293) (by decide +kernel), List.mem_of_getElem? (i := 294) (by decide +kernel)⟩
theorem lw_p14 : lw_okq (⟨"WitchTrial$Book", "keepClaim", "(IIZ)V"⟩, 2) := ⟨⟨by decide +kernel, by decide +kernel⟩, List.mem_of_getElem? (i := 23) (by decide +kernel), List.mem_of_getElem? (i := 317) (by decide +kernel), List.mem_of_getElem? (i := 318) (by decide +kernel)⟩
theorem lw_p15 : lw_okq (⟨"WitchTrial", "requirePhase", "(I)V"⟩, 14) := ⟨⟨by decide +kernel, by decide +kernel⟩, List.mem_of_getElem? (i := 15) (by decide +kernel), List.mem_of_getElem? (i := 336) (by decide +kernel), List.mem_of_getElem? (i := 337) (by decide +kernel)⟩
def lw_privs_1 : List (MethodName × Nat) := [(⟨"java/lang/Throwable", "fillInStackTrace", "(I)Ljava/lang/Throwable;"⟩, 6), (⟨"WitchTrial", "forgetVotes", "()V"⟩, 14), (⟨"WitchTrial", "forgetChoices", "()V"⟩, 14), (⟨"WitchTrial$Book", "open", "(II)V"⟩, 2), (⟨"WitchTrial$Book", "addWorlds", "(III)I"⟩, 2), (⟨"WitchTrial", "knownBits", "(I)I"⟩, 14), (⟨"WitchTrial", "isWitch", "(I)Z"⟩, 14), (⟨"WitchTrial$Book", "count", "(I)I"⟩, 2), (⟨"WitchTrial$Book", "agrees", "(II)Z"⟩, 2), (⟨"WitchTrial", "requireGame", "()V"⟩, 14), (⟨"WitchTrial", "requirePlayer", "(I)V"⟩, 14), (⟨"WitchTrial", "makeClaim", "(IIZ)I"⟩, 14), (⟨"WitchTrial", "isAlive", "(I)Z"⟩, 14), (⟨"WitchTrial$Book", "allowsClaim", "(IIZ)Z"⟩, 2), (⟨"WitchTrial$Book", "keepClaim", "(IIZ)V"⟩, 2), (⟨"WitchTrial", "requirePhase", "(I)V"⟩, 14)]
theorem lw_r1 : ∀ q ∈ lw_privs_1, lw_okq q := List.forall_mem_cons.mpr ⟨lw_p0, List.forall_mem_cons.mpr ⟨lw_p1, List.forall_mem_cons.mpr ⟨lw_p2, List.forall_mem_cons.mpr ⟨lw_p3, List.forall_mem_cons.mpr ⟨lw_p4, List.forall_mem_cons.mpr ⟨lw_p5, List.forall_mem_cons.mpr ⟨lw_p6, List.forall_mem_cons.mpr ⟨lw_p7, List.forall_mem_cons.mpr ⟨lw_p8, List.forall_mem_cons.mpr ⟨lw_p9, List.forall_mem_cons.mpr ⟨lw_p10, List.forall_mem_cons.mpr ⟨lw_p11, List.forall_mem_cons.mpr ⟨lw_p12, List.forall_mem_cons.mpr ⟨lw_p13, List.forall_mem_cons.mpr ⟨lw_p14, List.forall_mem_cons.mpr ⟨lw_p15, fun _ h => absurd h List.not_mem_nil⟩⟩⟩⟩⟩⟩⟩⟩⟩⟩⟩⟩⟩⟩⟩⟩
theorem lw_p16 : lw_okq (⟨"WitchTrial", "countVotes", "(I)I"⟩, 14) := ⟨⟨by decide +kernel, by decide +kernel⟩, List.mem_of_getElem? (i := 15) (by decide +kernel), List.mem_of_getElem? (i := 342) (by decide +kernel), List.mem_of_getElem? (i := 343) (by decide +kernel)⟩
theorem lw_p17 : lw_okq (⟨"WitchTrial", "playerWithMostVotes", "()I"⟩, 14) := ⟨⟨by decide +kernel, by decide +kernel⟩, List.mem_of_getElem? (i := 15) (by decide +kernel), List.mem_of_getElem? (i := 353) (by decide +kernel), List.mem_of_getElem? (i := 354) (by decide +kernel)⟩
theorem lw_p18 : lw_okq (⟨"WitchTrial", "die", "(I)V"⟩, 14) := ⟨⟨by decide +kernel, by decide +kernel⟩, List.mem_of_getElem? (i := 15) (by decide +kernel), List.mem_of_getElem? (i := 357) (by decide +kernel), List.mem_of_getElem? (i := 358) (by decide +kernel)⟩
theorem lw_p19 : lw_okq (⟨"WitchTrial", "requireToLive", "(I)V"⟩, 14) := ⟨⟨by decide +kernel, by decide +kernel⟩, List.mem_of_getElem? (i := 15) (by decide +kernel), List.mem_of_getElem? (i := 368) (by decide +kernel), List.mem_of_getElem? (i := 369) (by decide +kernel)⟩
theorem lw_p20 : lw_okq (⟨"WitchTrial", "seerLooks", "()V"⟩, 14) := ⟨⟨by decide +kernel, by decide +kernel⟩, List.mem_of_getElem? (i := 15) (by decide +kernel), List.mem_of_getElem? (i := 397) (by decide +kernel), List.mem_of_getElem? (i := 398) (by decide +kernel)⟩
theorem lw_p21 : lw_okq (⟨"WitchTrial", "requireViewer", "(I)V"⟩, 14) := ⟨⟨by decide +kernel, by decide +kernel⟩, List.mem_of_getElem? (i := 15) (by decide +kernel), List.mem_of_getElem? (i := 436) (by decide +kernel), List.mem_of_getElem? (i := 437) (by decide +kernel)⟩
theorem lw_p22 : lw_okq (⟨"WitchTrial$Book", "countWithRole", "(III)I"⟩, 2) := ⟨⟨by decide +kernel, by decide +kernel⟩, List.mem_of_getElem? (i := 23) (by decide +kernel), List.mem_of_getElem? (i := 448) (by decide +kernel), List.mem_of_getElem? (i := 449) (by decide +kernel)⟩
theorem lw_p23 : lw_okq (⟨"WitchTrial$Book", "witchesInAll", "(I)I"⟩, 2) := ⟨⟨by decide +kernel, by decide +kernel⟩, List.mem_of_getElem? (i := 23) (by decide +kernel), List.mem_of_getElem? (i := 461) (by decide +kernel), List.mem_of_getElem? (i := 462) (by decide +kernel)⟩
theorem lw_p24 : lw_okq (⟨"WitchTrial$Book", "witchesInAny", "(I)I"⟩, 2) := ⟨⟨by decide +kernel, by decide +kernel⟩, List.mem_of_getElem? (i := 23) (by decide +kernel), List.mem_of_getElem? (i := 472) (by decide +kernel), List.mem_of_getElem? (i := 473) (by decide +kernel)⟩
theorem lw_p25 : lw_okq (⟨"WitchTrial$Book", "countWitchSets", "(I)I"⟩, 2) := ⟨⟨by decide +kernel, by decide +kernel⟩, List.mem_of_getElem? (i := 23) (by decide +kernel), List.mem_of_getElem? (i := 483) (by decide +kernel), List.mem_of_getElem? (i := 484) (by decide +kernel)⟩
theorem lw_p26 : lw_okq (⟨"WitchTrial$Book", "contains", "(II)Z"⟩, 2) := ⟨⟨by decide +kernel, by decide +kernel⟩, List.mem_of_getElem? (i := 23) (by decide +kernel), List.mem_of_getElem? (i := 511) (by decide +kernel), List.mem_of_getElem? (i := 512) (by decide +kernel)⟩
theorem lw_p27 : lw_okq (⟨"WitchTrialModel", "forgets", "()V"⟩, 16) := ⟨⟨by decide +kernel, by decide +kernel⟩, List.mem_of_getElem? (i := 515) (by decide +kernel), List.mem_of_getElem? (i := 591) (by decide +kernel), List.mem_of_getElem? (i := 592) (by decide +kernel)⟩
theorem lw_p28 : lw_okq (⟨"WitchTrialModel", "manyOpen", "()I"⟩, 16) := ⟨⟨by decide +kernel, by decide +kernel⟩, List.mem_of_getElem? (i := 515) (by decide +kernel), List.mem_of_getElem? (i := 595) (by decide +kernel), List.mem_of_getElem? (i := 596) (by decide +kernel)⟩
theorem lw_p29 : lw_okq (⟨"WitchTrialModel", "isPlayer", "(I)Z"⟩, 16) := ⟨⟨by decide +kernel, by decide +kernel⟩, List.mem_of_getElem? (i := 515) (by decide +kernel), List.mem_of_getElem? (i := 607) (by decide +kernel), List.mem_of_getElem? (i := 608) (by decide +kernel)⟩
theorem lw_p30 : lw_okq (⟨"WitchTrialModel", "truth", "()I"⟩, 16) := ⟨⟨by decide +kernel, by decide +kernel⟩, List.mem_of_getElem? (i := 515) (by decide +kernel), List.mem_of_getElem? (i := 611) (by decide +kernel), List.mem_of_getElem? (i := 612) (by decide +kernel)⟩
theorem lw_p31 : lw_okq (⟨"WitchTrialModel", "may", "(IZ)Z"⟩, 16) := ⟨⟨by decide +kernel, by decide +kernel⟩, List.mem_of_getElem? (i := 515) (by decide +kernel), List.mem_of_getElem? (i := 621) (by decide +kernel), List.mem_of_getElem? (i := 622) (by decide +kernel)⟩
def lw_privs_2 : List (MethodName × Nat) := [(⟨"WitchTrial", "countVotes", "(I)I"⟩, 14), (⟨"WitchTrial", "playerWithMostVotes", "()I"⟩, 14), (⟨"WitchTrial", "die", "(I)V"⟩, 14), (⟨"WitchTrial", "requireToLive", "(I)V"⟩, 14), (⟨"WitchTrial", "seerLooks", "()V"⟩, 14), (⟨"WitchTrial", "requireViewer", "(I)V"⟩, 14), (⟨"WitchTrial$Book", "countWithRole", "(III)I"⟩, 2), (⟨"WitchTrial$Book", "witchesInAll", "(I)I"⟩, 2), (⟨"WitchTrial$Book", "witchesInAny", "(I)I"⟩, 2), (⟨"WitchTrial$Book", "countWitchSets", "(I)I"⟩, 2), (⟨"WitchTrial$Book", "contains", "(II)Z"⟩, 2), (⟨"WitchTrialModel", "forgets", "()V"⟩, 16), (⟨"WitchTrialModel", "manyOpen", "()I"⟩, 16), (⟨"WitchTrialModel", "isPlayer", "(I)Z"⟩, 16), (⟨"WitchTrialModel", "truth", "()I"⟩, 16), (⟨"WitchTrialModel", "may", "(IZ)Z"⟩, 16)]
theorem lw_r2 : ∀ q ∈ lw_privs_2, lw_okq q := List.forall_mem_cons.mpr ⟨lw_p16, List.forall_mem_cons.mpr ⟨lw_p17, List.forall_mem_cons.mpr ⟨lw_p18, List.forall_mem_cons.mpr ⟨lw_p19, List.forall_mem_cons.mpr ⟨lw_p20, List.forall_mem_cons.mpr ⟨lw_p21, List.forall_mem_cons.mpr ⟨lw_p22, List.forall_mem_cons.mpr ⟨lw_p23, List.forall_mem_cons.mpr ⟨lw_p24, List.forall_mem_cons.mpr ⟨lw_p25, List.forall_mem_cons.mpr ⟨lw_p26, List.forall_mem_cons.mpr ⟨lw_p27, List.forall_mem_cons.mpr ⟨lw_p28, List.forall_mem_cons.mpr ⟨lw_p29, List.forall_mem_cons.mpr ⟨lw_p30, List.forall_mem_cons.mpr ⟨lw_p31, fun _ h => absurd h List.not_mem_nil⟩⟩⟩⟩⟩⟩⟩⟩⟩⟩⟩⟩⟩⟩⟩⟩
theorem lw_p32 : lw_okq (⟨"WitchTrialModel", "manyVotes", "(I)I"⟩, 16) := ⟨⟨by decide +kernel, by decide +kernel⟩, List.mem_of_getElem? (i := 515) (by decide +kernel), List.mem_of_getElem? (i := 633) (by decide +kernel), List.mem_of_getElem? (i := 634) (by decide +kernel)⟩
theorem lw_p33 : lw_okq (⟨"WitchTrialModel", "dies", "(I)V"⟩, 16) := ⟨⟨by decide +kernel, by decide +kernel⟩, List.mem_of_getElem? (i := 515) (by decide +kernel), List.mem_of_getElem? (i := 641) (by decide +kernel), List.mem_of_getElem? (i := 642) (by decide +kernel)⟩
theorem lw_p34 : lw_okq (⟨"WitchTrialModel", "isGame", "()Z"⟩, 16) := ⟨⟨by decide +kernel, by decide +kernel⟩, List.mem_of_getElem? (i := 515) (by decide +kernel), List.mem_of_getElem? (i := 665) (by decide +kernel), List.mem_of_getElem? (i := 666) (by decide +kernel)⟩
theorem lw_p35 : lw_okq (⟨"WitchTrialModel", "asks", "(I)Z"⟩, 16) := ⟨⟨by decide +kernel, by decide +kernel⟩, List.mem_of_getElem? (i := 515) (by decide +kernel), List.mem_of_getElem? (i := 685) (by decide +kernel), List.mem_of_getElem? (i := 686) (by decide +kernel)⟩
theorem lw_p36 : lw_okq (⟨"WitchTrialModel", "isViewer", "(I)Z"⟩, 16) := ⟨⟨by decide +kernel, by decide +kernel⟩, List.mem_of_getElem? (i := 515) (by decide +kernel), List.mem_of_getElem? (i := 689) (by decide +kernel), List.mem_of_getElem? (i := 690) (by decide +kernel)⟩
theorem lw_p37 : lw_okq (⟨"WitchTrialModel", "manyFor", "(I)I"⟩, 16) := ⟨⟨by decide +kernel, by decide +kernel⟩, List.mem_of_getElem? (i := 515) (by decide +kernel), List.mem_of_getElem? (i := 693) (by decide +kernel), List.mem_of_getElem? (i := 694) (by decide +kernel)⟩
theorem lw_p38 : lw_okq (⟨"WitchTrialModel", "isFor", "(II)Z"⟩, 16) := ⟨⟨by decide +kernel, by decide +kernel⟩, List.mem_of_getElem? (i := 515) (by decide +kernel), List.mem_of_getElem? (i := 697) (by decide +kernel), List.mem_of_getElem? (i := 698) (by decide +kernel)⟩
theorem lw_p39 : lw_okq (⟨"WitchTrialModel", "manyWith", "(III)I"⟩, 16) := ⟨⟨by decide +kernel, by decide +kernel⟩, List.mem_of_getElem? (i := 515) (by decide +kernel), List.mem_of_getElem? (i := 705) (by decide +kernel), List.mem_of_getElem? (i := 706) (by decide +kernel)⟩
theorem lw_p40 : lw_okq (⟨"WitchTrialModel", "inSome", "(IZ)I"⟩, 16) := ⟨⟨by decide +kernel, by decide +kernel⟩, List.mem_of_getElem? (i := 515) (by decide +kernel), List.mem_of_getElem? (i := 713) (by decide +kernel), List.mem_of_getElem? (i := 714) (by decide +kernel)⟩
theorem lw_p41 : lw_okq (⟨"WitchTrialModel", "laysWitches", "(I)V"⟩, 16) := ⟨⟨by decide +kernel, by decide +kernel⟩, List.mem_of_getElem? (i := 515) (by decide +kernel), List.mem_of_getElem? (i := 729) (by decide +kernel), List.mem_of_getElem? (i := 730) (by decide +kernel)⟩
def lw_privs_3 : List (MethodName × Nat) := [(⟨"WitchTrialModel", "manyVotes", "(I)I"⟩, 16), (⟨"WitchTrialModel", "dies", "(I)V"⟩, 16), (⟨"WitchTrialModel", "isGame", "()Z"⟩, 16), (⟨"WitchTrialModel", "asks", "(I)Z"⟩, 16), (⟨"WitchTrialModel", "isViewer", "(I)Z"⟩, 16), (⟨"WitchTrialModel", "manyFor", "(I)I"⟩, 16), (⟨"WitchTrialModel", "isFor", "(II)Z"⟩, 16), (⟨"WitchTrialModel", "manyWith", "(III)I"⟩, 16), (⟨"WitchTrialModel", "inSome", "(IZ)I"⟩, 16), (⟨"WitchTrialModel", "laysWitches", "(I)V"⟩, 16)]
theorem lw_r3 : ∀ q ∈ lw_privs_3, lw_okq q := List.forall_mem_cons.mpr ⟨lw_p32, List.forall_mem_cons.mpr ⟨lw_p33, List.forall_mem_cons.mpr ⟨lw_p34, List.forall_mem_cons.mpr ⟨lw_p35, List.forall_mem_cons.mpr ⟨lw_p36, List.forall_mem_cons.mpr ⟨lw_p37, List.forall_mem_cons.mpr ⟨lw_p38, List.forall_mem_cons.mpr ⟨lw_p39, List.forall_mem_cons.mpr ⟨lw_p40, List.forall_mem_cons.mpr ⟨lw_p41, fun _ h => absurd h List.not_mem_nil⟩⟩⟩⟩⟩⟩⟩⟩⟩⟩
def lw_privs : List (MethodName × Nat) := lw_privs_1 ++ (lw_privs_2 ++ (lw_privs_3))
def lw_tbl : List Cond := k2_sels lw_privs ++ tables_1
theorem lw_privs_ok : ∀ q ∈ lw_privs, lw_okq q := by
  show ∀ q ∈ lw_privs_1 ++ (lw_privs_2 ++ (lw_privs_3)), lw_okq q
  exact List.forall_mem_append.mpr ⟨lw_r1, List.forall_mem_append.mpr ⟨lw_r2, lw_r3⟩⟩
-- ===== end of PART A; then your names; then what follows =====
end
section
/-! ===== BEGIN words of one list among another's, by their places ===== -/
theorem goodIn_r {big : List Cond} (ws : List Cond) (ps : List Nat) (hp : ws = ps.filterMap (fun i => big[i]?)) (h : ws.all goodWord = true) : GoodIn big ws := by
  intro w hw
  have h1 := List.all_eq_true.mp h w hw
  rw [hp] at hw
  obtain ⟨i, -, hi⟩ := List.mem_filterMap.mp hw
  have hm : w ∈ big := by first | exact List.mem_of_getElem? hi | exact List.getElem?_mem hi
  exact ⟨hm, good_of_word h1⟩
theorem goodIn_app {big a b : List Cond} (ha : GoodIn big a) (hb : GoodIn big b) : GoodIn big (a ++ b) := fun w h => (List.mem_append.mp h).elim (ha w) (hb w)
theorem goodIn_ca {big a b : List Cond} {c : Cond} (ha : GoodIn big (c :: a)) (hb : GoodIn big b) : GoodIn big (c :: (a ++ b)) := fun w h => (List.mem_cons.mp h).elim (fun e => ha w (List.mem_cons.mpr (Or.inl e))) (fun h => (List.mem_append.mp h).elim (fun h => ha w (List.mem_cons.mpr (Or.inr h))) (hb w))
theorem goodIn_sub {big ws : List Cond} (hm : ∀ w ∈ ws, w ∈ big) (h : ws.all goodWord = true) : GoodIn big ws := fun w hw => ⟨hm w hw, good_of_word (List.all_eq_true.mp h w hw)⟩
/-! ===== END ===== -/

/-! ===== BEGIN exceptions that leave a method, and their catching by the caller (launches without stack traces) ===== -/
section VXA
/-! The laws vx_back, vx_callV, vx_callS, vx_callSW, vx_throw0, vx_throwS follow proofs of the library, with one case more: JvmDerived/Free/Laws.lean (Back.of_free), Shelf42/LK1.lean (callV, callS), Shelf/KitTraced.lean (throwNew0V, throwNewS). -/
/-- where a method has thrown q: the class by its name, the cell, what was written, the world -/
def vx_T (XC : String → State → State → Prop) (st : State) (q : Addr) (t : State) (mc ms : Nat) (free : Addr → Prop) : Prop :=
  ∃ (E : String) (ce : Cell) (L : List Loc), XC E st t ∧ t.heap[q]? = some ce ∧ ce.vm = .none ∧ st.vm.findClass E = some ce.cls ∧ st.WarmedH t.vm ∧ st.sameButNew ({ t with vm := st.vm } : State) L mc ms ∧ ∀ z ∈ L, free z.base
def vx_Q (Qc : Array Value → State → Outcome → State → Prop) (XC : String → State → State → Prop) (mc ms : Nat) (free : Addr → Prop) : Array Value → State → Outcome → State → Prop := fun a st o t =>
  (Qc a st o t ∧ ∃ L, FrameEnd st o t L mc ms ∧ ∀ q ∈ L, free q.base) ∨ ∃ q, o = .threw q ∧ vx_T XC st q t mc ms free
/-- a callee that returns or throws -/
def vx_Met (l : Launch) (y : MethodName) (ws : List Cond) (rm : Room) (Pc : Array Value → State → Prop) (Qc : Array Value → State → Outcome → State → Prop) (XC : String → State → State → Prop) (mc ms : Nat) (free : Addr → Prop) : Prop :=
  MetFree l y (headSpec ws rm) Pc (fun _ _ _ _ _ => True) (vx_Q Qc XC mc ms free)
def vx_Post (XC : String → State → State → Prop) (mc ms : Nat) (free : Addr → Prop) : Pt → Array Value → Addr → Pt → Prop := fun A a q B =>
  ∃ (g : JFrame) (mk : MethodId) (t : State) (L : List Loc) (E : String) (ce : Cell), B.U.heap = t.heap ∧ B.U.vm = t.vm ∧ XC E (A.U.calling g mk a) t ∧ t.heap[q]? = some ce ∧ ce.vm = .none ∧ A.U.vm.findClass E = some ce.cls ∧ B.locs = A.locs ++ L ∧ (∀ z ∈ L, free z.base) ∧ B.cells = A.cells + mc ∧ B.slots = A.slots + ms
def vx_Back (l : Launch) (R : Room) (p : Program) (e : Env) (below : List Frame) (s : State) (sargs : Array Value) (y : MethodName) (len W9 : Nat)
    (Pre : Pt → Array Value → Prop) (Post : Pt → Array Value → Option Value → Pt → Prop) (PostX : Pt → Array Value → Addr → Pt → Prop) : Prop :=
  ∀ (m : MethodId) (meth : Method) (c : Code) (A : Pt) (g : JFrame) (ig : Instr) (mk : MethodId) (a : Array Value),
    Stand p l e R s m sargs below meth c A.U A.locs A.cells A.slots → g.method = m → g.locals.size = c.maxLocals → decode c.code g.pc = .ok (ig, len) →
    2 * g.monitorRoom + (g.stack.map fun v => v.category).sum ≤ W9 → A.U.methodNamed? y = some mk → Pre A a →
    (∃ (v : Option Value) (B : Pt), Stand p l e R s m sargs below meth c B.U B.locs B.cells B.slots ∧ Post A a v B ∧
      Steps p.tables e below (doInvoke e (A.U.setTop g) [] mk a).1 (B.U.setTop { g with pc := g.pc + len, stack := v.toList ++ g.stack })) ∨
    (∃ (q : Addr) (B : Pt), Stand p l e R s m sargs below meth c B.U B.locs B.cells B.slots ∧ PostX A a q B ∧
      Steps p.tables e below (doInvoke e (A.U.setTop g) [] mk a).1 ((B.U.setTop g).pushFrame (.throwing q)))
section Payer
variable {l : Launch} {R : Room} {p : Program} {e : Env} {below : List Frame} {s : State} {sargs : Array Value} {y : MethodName} {len W9 : Nat}
theorem vx_back {ws : List Cond} {rm : Room} {Pc : Array Value → State → Prop} {Qc : Array Value → State → Outcome → State → Prop} {XC : String → State → State → Prop} {mc ms : Nat} {free : Addr → Prop} {bytes : ByteArray} {maxL : Nat} {ret : Option FieldType}
    (hM : vx_Met l y ws rm Pc Qc XC mc ms free) (hblind : FrameBlind Pc) (hrc : rm.cells = mc) (hrs : rm.slots = ms)
    (hframes : rm.frames + 1 ≤ R.frames) (hlocals : W9 + (maxL + 11) + rm.locals ≤ R.locals)
    (hws : ∀ w ∈ ws, ∀ a' U, s.WarmedH U.vm → w.before a' U = true) (hcode : Cond.code y bytes maxL ret ∈ ws) (hinit : ∀ a' U, s.WarmedH U.vm → (Cond.initialized y.cls).before a' U = true) :
    vx_Back l R p e below s sargs y len W9 (PreOf R mc ms Pc) (PostOf Qc mc ms free) (vx_Post XC mc ms free) := by
  intro m meth c A g ig mk a X hg hsize hdg hW hn hp
  have h1 : (headSpec ws rm).pre.before a A.U = true := atoms_intro fun w hw => hws w hw _ _ X.warmed
  have h2 : (Cond.code y bytes maxL ret).before a A.U = true := hws _ hcode _ _ X.warmed
  have h3 : (Cond.initialized y.cls).before a A.U = true := hinit _ _ X.warmed
  have h4 : A.cells + (headSpec ws rm).room.cells ≤ R.cells := by rw [show (headSpec ws rm).room.cells = mc from hrc]; exact hp.1
  have h5 : A.slots + (headSpec ws rm).room.slots ≤ R.slots := by rw [show (headSpec ws rm).room.slots = ms from hrs]; exact hp.2.1
  have hPc : Pc a (A.U.calling g mk a) := hblind _ _ _ _ hp.2.2
  obtain ⟨U, Ls, c0, s0⟩ := A
  dsimp only [Pt.U, Pt.locs, Pt.cells, Pt.slots] at h1 h2 h3 h4 h5 X hn hPc ⊢
  obtain ⟨methY, cY, hmY, hcY, -, hlY, -, -, -, -⟩ := Cond.code_spec hn h2
  obtain ⟨kY, hkY, -⟩ := className_of_methodNamed hn
  have hinitY : kY.init = .initialized := Cond.initialized_spec (findClass_of_methodNamed hn) hkY h3
  have h : At U g.method c below := by rw [hg]; exact X.here
  have hlocals9 : W9 + (maxL + 11) + (headSpec ws rm).room.locals ≤ R.locals := hlocals
  have happ : (headSpec ws rm).appliesLoose y e.platform (U.calling g mk a) = true :=
    Spec.appliesLoose_calling (g := g) h hdg hn hkY hinitY
      (X.room_calling (g := g) (R' := (headSpec ws rm).room) hsize hmY hcY hframes (by rw [hlY]; omega) h4 h5) h1
  obtain ⟨mid, hmid⟩ := h.above
  have hfr : (U.setTop g).frames = (.java g :: mid) ++ below := by rw [State.frames_setTop' g h.top, hmid]; rfl
  obtain ⟨o, s₂, hsteps, -, hend, hq⟩ := Steps.callFree hM p X.admits X.cas X.clock (acts := []) hfr happ hPc trivial
  have hq' : vx_Q Qc XC mc ms free a (U.calling g mk a) o s₂ := hq
  rw [State.frames_setTop' g h.top] at hend
  obtain ⟨g₀, hg0⟩ := Option.isSome_iff_exists.mp h.top
  obtain ⟨r, hr⟩ := State.topJava?_eq_some.mp hg0
  have hr' : (({ U with heap := s₂.heap, slotsUsed := s₂.slotsUsed } : State).setVm s₂.vm).frames = .java g₀ :: r := hr
  rcases hq' with ⟨hqc, L, hfe, hL⟩ | ⟨q, rfl, E, ce, L, hx, hce, hcv, hcl, hW₂, hsm, hL⟩
  · obtain ⟨⟨v, rfl⟩, hW₂, e2, q2, q3, q4, q5, q6⟩ := id hfe
    have e3 : s₂ = ({ (U.calling g mk a).setFrames s₂.frames with heap := s₂.heap, slotsUsed := s₂.slotsUsed } : State).setVm s₂.vm := by
      have : s₂ = ({ s₂ with vm := (U.calling g mk a).vm } : State).setVm s₂.vm := rfl
      rw [e2] at this
      exact this
    obtain ⟨c₂, i₂, len₂, hc₂, hd₂, hf₂⟩ := hend
    have hW' : U.WarmedH s₂.vm := hW₂
    have hcc : c₂ = c := by
      have h1 : s₂.code? g.method = U.code? g.method := by
        rw [State.code?_eq, State.code?_eq, hW'.alike.method?]
      exact Option.some.inj (hc₂.symm.trans (h1.trans h.code))
    subst hcc
    have hlen : len₂ = len := by rw [hdg] at hd₂; cases hd₂; rfl
    subst hlen
    have hs₂ : s₂ = (({ U with heap := s₂.heap, slotsUsed := s₂.slotsUsed } : State).setVm s₂.vm).setTop { g with pc := g.pc + len₂, stack := v.toList ++ g.stack } := by
      refine e3.trans ?_
      rw [hf₂, State.calling_eq h.top, State.setFrames_setFrames, State.setTop_of_frames _ hr', hr]
      rfl
    have hsame : U.sameButNew ({ U with heap := s₂.heap, slotsUsed := s₂.slotsUsed } : State) L mc ms := by
      refine ⟨?_, q2, q3, q4, q5, q6⟩
      obtain ⟨t, ht, -⟩ := State.frames_cons hr
      show ({ U with heap := s₂.heap, slotsUsed := s₂.slotsUsed } : State) = { U.setFrames U.frames with heap := s₂.heap, slotsUsed := s₂.slotsUsed }
      rw [State.setFrames_self ht]
    subst hg
    refine Or.inl ⟨v, ⟨(({ U with heap := s₂.heap, slotsUsed := s₂.slotsUsed } : State).setVm s₂.vm), Ls ++ L, c0 + mc, s0 + ms⟩,
      ⟨X.admits, X.cas, X.clock, X.frames, X.room, X.hears, X.method, X.code, (X.here.setHeapUsed s₂.heap s₂.slotsUsed).setVm hW'.alike, X.tail, State.WarmedH.trans X.warmed hW', X.limits, X.bytes, X.same.trans (hsame.setVm s.vm)⟩,
      ⟨g, mk, s₂, L, rfl, rfl, hqc, rfl, hL, rfl, rfl⟩, ?_⟩
    show Steps p.tables e below _ ((({ U with heap := s₂.heap, slotsUsed := s₂.slotsUsed } : State).setVm s₂.vm).setTop { g with pc := g.pc + len₂, stack := v.toList ++ g.stack })
    rw [← hs₂]
    exact hsteps
  · obtain ⟨e2, q2, q3, q4, q5, q6⟩ := id hsm
    have e3 : s₂ = ({ (U.calling g mk a).setFrames s₂.frames with heap := s₂.heap, slotsUsed := s₂.slotsUsed } : State).setVm s₂.vm := by
      have : s₂ = ({ s₂ with vm := (U.calling g mk a).vm } : State).setVm s₂.vm := rfl
      rw [e2] at this
      exact this
    have hf₂ : s₂.frames = .throwing q :: .java g :: U.frames.tail := hend
    have hW' : U.WarmedH s₂.vm := hW₂
    have hs₂ : s₂ = ((({ U with heap := s₂.heap, slotsUsed := s₂.slotsUsed } : State).setVm s₂.vm).setTop g).pushFrame (.throwing q) := by
      refine e3.trans ?_
      rw [hf₂, State.calling_eq h.top, State.setFrames_setFrames, State.pushFrame, State.frames_setTop _ hr', State.setTop_of_frames _ hr', State.setFrames_setFrames, hr]
      rfl
    have hsame : U.sameButNew ({ U with heap := s₂.heap, slotsUsed := s₂.slotsUsed } : State) L mc ms := by
      refine ⟨?_, q2, q3, q4, q5, q6⟩
      obtain ⟨t, ht, -⟩ := State.frames_cons hr
      show ({ U with heap := s₂.heap, slotsUsed := s₂.slotsUsed } : State) = { U.setFrames U.frames with heap := s₂.heap, slotsUsed := s₂.slotsUsed }
      rw [State.setFrames_self ht]
    subst hg
    refine Or.inr ⟨q, ⟨(({ U with heap := s₂.heap, slotsUsed := s₂.slotsUsed } : State).setVm s₂.vm), Ls ++ L, c0 + mc, s0 + ms⟩,
      ⟨X.admits, X.cas, X.clock, X.frames, X.room, X.hears, X.method, X.code, (X.here.setHeapUsed s₂.heap s₂.slotsUsed).setVm hW'.alike, X.tail, State.WarmedH.trans X.warmed hW', X.limits, X.bytes, X.same.trans (hsame.setVm s.vm)⟩,
      ⟨g, mk, s₂, L, E, ce, rfl, rfl, hx, hce, hcv, hcl, rfl, hL, rfl, rfl⟩, ?_⟩
    show Steps p.tables e below _ (((({ U with heap := s₂.heap, slotsUsed := s₂.slotsUsed } : State).setVm s₂.vm).setTop g).pushFrame (.throwing q))
    rw [← hs₂]
    exact hsteps
end Payer
section Calls
variable {p : Program} {l : Launch} {e : Env} {R : Room} {s : State} {m : MethodId} {args : Array Value} {below : List Frame} {meth : Method} {c : Code} {T : State} {locs : List Loc} {cells slots : Nat}
theorem vx_callV (X : Stand p l e R s m args below meth c T locs cells slots) (hexec : p.tables.exec = Jvm.exec) {own C : String} {index : Nat} {y : MethodName} {bytes : ByteArray} {maxL : Nat} {ret : Option FieldType}
    (hown : s.vm.findClass own = some m.cls) (hlink : (Cond.methodLink own index y).before args s = true) (hinst : (Cond.instanceMethod y).before args s = true) (hsel : (Cond.selects C y y).before args s = true)
    (hcode : (Cond.code y bytes maxL ret).before args s = true) (hy : y.cls ≠ "java/lang/invoke/MethodHandle" ∧ y.cls ≠ "java/lang/invoke/VarHandle")
    {W9 : Nat} {Pre : Pt → Array Value → Prop} {Post : Pt → Array Value → Option Value → Pt → Prop} {PostX : Pt → Array Value → Addr → Pt → Prop} (hK : vx_Back l R p e below s args y 3 W9 Pre Post PostX)
    {b : Addr} {cellB : Cell} (hcell : T.heap[b]? = some cellB) (hobj : cellB.vm.isStatics = false) (hcls : s.vm.findClass C = some cellB.cls)
    {g : JFrame} (hg : g.method = m) (hsize : g.locals.size = c.maxLocals) {argsL rest : List Value} (hlen : ∀ sig, parseMethodDescriptor y.desc = some sig → argsL.length = sig.parameters.length)
    (hstack : g.stack = argsL.reverse ++ .ref b :: rest) (hW : 2 * g.monitorRoom + (rest.map fun v => v.category).sum ≤ W9) (hdg : decode c.code g.pc = .ok (.invokevirtual index, 3))
    (hpre : ∀ vm₁, s.WarmedH vm₁ → Pre ⟨T.setVm vm₁, locs, cells, slots⟩ (Value.ref b :: argsL).toArray) :
    (∃ (v : Option Value) (vm₁ : Vm) (B : Pt), s.WarmedH vm₁ ∧ Stand p l e R s m args below meth c B.U B.locs B.cells B.slots ∧ Post ⟨T.setVm vm₁, locs, cells, slots⟩ (Value.ref b :: argsL).toArray v B ∧
      ∀ target, Steps p.tables e below (B.U.setTop { g with pc := g.pc + 3, stack := v.toList ++ rest }) target → Steps p.tables e below (T.setTop g) target) ∨
    (∃ (q : Addr) (vm₁ : Vm) (B : Pt), s.WarmedH vm₁ ∧ Stand p l e R s m args below meth c B.U B.locs B.cells B.slots ∧ PostX ⟨T.setVm vm₁, locs, cells, slots⟩ (Value.ref b :: argsL).toArray q B ∧
      Steps p.tables e below (T.setTop g) ((B.U.setTop { g with stack := rest }).pushFrame (.throwing q))) := by
  obtain ⟨mk, methM, hnamed, hmethM, hstM, habM⟩ := Cond.instanceMethod_spec hinst
  obtain ⟨methM', cM, hmethM', -, -, -, -, -, -, hsigM⟩ := Cond.code_spec hnamed hcode
  cases hmethM.symm.trans hmethM'
  obtain ⟨c2, r2, m2, q1, q2, q3, q4, kP, hkP, hkPi⟩ := Cond.selects_spec hsel
  cases hcls.symm.trans q1
  cases (State.methodFound?_of_named hnamed hy).symm.trans q2
  cases hnamed.symm.trans q3
  have hselP : selectMethod e.platform s.vm cellB.cls mk = .method mk := by rw [Launch.admits_selectMethod X.admits]; exact q4
  obtain ⟨vm₁, X₁, hstep₁⟩ := X.invokevirtual hexec hown hlink hnamed hmethM hstM hkP hkPi hy (a := b) (cell := cellB) hcell
    (fun z h => by rw [h] at hobj; cases hobj) hselP hmethM habM hkP hkPi (g := g) hg (argsL := argsL) (rest := rest) (hlen _ hsigM) hstack hdg
  rcases hK m meth c ⟨T.setVm vm₁, locs, cells, slots⟩ { g with stack := rest } (.invokevirtual index) mk (Value.ref b :: argsL).toArray X₁ hg hsize hdg hW (X₁.named hnamed) (hpre vm₁ X₁.warmed) with ⟨v, B, X', hpost, hsteps⟩ | ⟨q, B, X', hpost, hsteps⟩
  · exact Or.inl ⟨v, vm₁, B, X₁.warmed, X', hpost, fun target h => hstep₁ _ fun acts => by rw [doInvoke_state]; exact hsteps.trans h⟩
  · exact Or.inr ⟨q, vm₁, B, X₁.warmed, X', hpost, hstep₁ _ fun acts => by rw [doInvoke_state]; exact hsteps⟩
theorem vx_callS (X : Stand p l e R s m args below meth c T locs cells slots) (hexec : p.tables.exec = Jvm.exec) {own : String} {index : Nat} {y : MethodName} {bytes : ByteArray} {maxL : Nat} {ret : Option FieldType}
    (hown : s.vm.findClass own = some m.cls) (hlink : (Cond.methodLink own index y).before args s = true) (hstat : (Cond.static y).before args s = true) (hinit : (Cond.initialized y.cls).before args s = true)
    (hcode : (Cond.code y bytes maxL ret).before args s = true) (hy : y.cls ≠ "java/lang/invoke/MethodHandle" ∧ y.cls ≠ "java/lang/invoke/VarHandle")
    {W9 : Nat} {Pre : Pt → Array Value → Prop} {Post : Pt → Array Value → Option Value → Pt → Prop} {PostX : Pt → Array Value → Addr → Pt → Prop} (hK : vx_Back l R p e below s args y 3 W9 Pre Post PostX)
    {g : JFrame} (hg : g.method = m) (hsize : g.locals.size = c.maxLocals) {argsL rest : List Value} (hlen : ∀ sig, parseMethodDescriptor y.desc = some sig → argsL.length = sig.parameters.length)
    (hstack : g.stack = argsL.reverse ++ rest) (hW : 2 * g.monitorRoom + (rest.map fun v => v.category).sum ≤ W9) (hdg : decode c.code g.pc = .ok (.invokestatic index, 3))
    (hpre : ∀ vm₁, s.WarmedH vm₁ → Pre ⟨T.setVm vm₁, locs, cells, slots⟩ argsL.toArray) :
    (∃ (v : Option Value) (vm₁ : Vm) (B : Pt), s.WarmedH vm₁ ∧ Stand p l e R s m args below meth c B.U B.locs B.cells B.slots ∧ Post ⟨T.setVm vm₁, locs, cells, slots⟩ argsL.toArray v B ∧
      ∀ target, Steps p.tables e below (B.U.setTop { g with pc := g.pc + 3, stack := v.toList ++ rest }) target → Steps p.tables e below (T.setTop g) target) ∨
    (∃ (q : Addr) (vm₁ : Vm) (B : Pt), s.WarmedH vm₁ ∧ Stand p l e R s m args below meth c B.U B.locs B.cells B.slots ∧ PostX ⟨T.setVm vm₁, locs, cells, slots⟩ argsL.toArray q B ∧
      Steps p.tables e below (T.setTop g) ((B.U.setTop { g with stack := rest }).pushFrame (.throwing q))) := by
  obtain ⟨mk, hnamed⟩ := Cond.code_named hcode
  obtain ⟨methM, cM, hmethM, -, -, -, -, -, -, hsigM⟩ := Cond.code_spec hnamed hcode
  have hstatic : methM.isStatic = true := Cond.static_spec hnamed hmethM hstat
  obtain ⟨kP, hkP, -⟩ := className_of_methodNamed hnamed
  have hinitP : kP.init = .initialized := Cond.initialized_spec (findClass_of_methodNamed hnamed) hkP hinit
  obtain ⟨vm₁, X₁, hstep₁⟩ := X.invokestatic hexec hown hlink hnamed hmethM hstatic hkP hinitP hy (g := g) hg (argsL := argsL) (rest := rest) (hlen _ hsigM) hstack hdg
  rcases hK m meth c ⟨T.setVm vm₁, locs, cells, slots⟩ { g with stack := rest } (.invokestatic index) mk argsL.toArray X₁ hg hsize hdg hW (X₁.named hnamed) (hpre vm₁ X₁.warmed) with ⟨v, B, X', hpost, hsteps⟩ | ⟨q, B, X', hpost, hsteps⟩
  · exact Or.inl ⟨v, vm₁, B, X₁.warmed, X', hpost, fun target h => hstep₁ _ fun acts => by rw [doInvoke_state]; exact hsteps.trans h⟩
  · exact Or.inr ⟨q, vm₁, B, X₁.warmed, X', hpost, hstep₁ _ fun acts => by rw [doInvoke_state]; exact hsteps⟩
end Calls
theorem vx_cls {s : State} {T : State} {vm₁ : Vm} {E : String} {k : ClassId} (hW : s.WarmedH vm₁) (h : (T.setVm vm₁).vm.findClass E = some k) : s.vm.findClass E = some k := by
  have h1 : vm₁.findClass E = some k := h
  rw [hW.alike.findClass] at h1
  exact h1
/-- the method's frame g, with q thrown over it -/
def vx_W (p : Program) (l : Launch) (e : Env) (R : Room) (s : State) (m : MethodId) (args : Array Value) (below : List Frame) (meth : Method) (c : Code) (H : Heap) (locs : List Loc) (cells slots : Nat) (Q : State → Prop) (g : JFrame) (q : Addr) : Prop :=
  ∀ T : State, T.heap = H → Stand p l e R s m args below meth c T locs cells slots → ∃ t, Steps p.tables e below ((T.setTop g).pushFrame (.throwing q)) t ∧ Q t
def vx_Run (p : Program) (l : Launch) (e : Env) (R : Room) (s : State) (m : MethodId) (args : Array Value) (below : List Frame) (meth : Method) (c : Code) (H : Heap) (locs : List Loc) (cells slots mc ms : Nat) (g : JFrame) (rest : List Value) (Qa : State → Outcome → State → Prop) (XC : String → State → State → Prop) (free : Addr → Prop) : Prop :=
  ∀ T : State, T.heap = H → Stand p l e R s m args below meth c T locs cells slots →
    (∃ (v : Option Value) (st₀ t T' : State) (L : List Loc), st₀.heap = H ∧ Stand p l e R s m args below meth c T' (locs ++ L) (cells + mc) (slots + ms) ∧ (∀ q ∈ L, free q.base) ∧ T'.heap = t.heap ∧ T'.vm = t.vm ∧ Qa st₀ (.returned v) t ∧
      Goes p e below T g T' { g with pc := g.pc + 3, stack := v.toList ++ rest }) ∨
    (∃ (q : Addr) (st₀ t T' : State) (L : List Loc) (E : String) (ce : Cell), st₀.heap = H ∧ Stand p l e R s m args below meth c T' (locs ++ L) (cells + mc) (slots + ms) ∧ (∀ z ∈ L, free z.base) ∧ T'.heap = t.heap ∧ T'.vm = t.vm ∧ XC E st₀ t ∧ t.heap[q]? = some ce ∧ ce.vm = .none ∧ s.vm.findClass E = some ce.cls ∧
      Steps p.tables e below (T.setTop g) ((T'.setTop { g with stack := rest }).pushFrame (.throwing q)))
def vx_X {S : Type} (px : S → Prop) (B : String → S → State → Prop) (A : Nat → Prop) : String → State → State → Prop := fun E st t => ∃ u : S, px u ∧ B E u t ∧ va_F A st t
section Runs
variable {p : Program} {l : Launch} {e : Env} {R : Room} {s : State} {m : MethodId} {args : Array Value} {below : List Frame} {meth : Method} {c : Code} {H : Heap} {locs : List Loc} {cells slots : Nat}
variable {y : MethodName} {bytes cc : ByteArray} {maxL nL mc ms n index : Nat} {ret : Option FieldType} {ws : List Cond} {rm : Room} {Pc : Array Value → State → Prop} {Qc : Array Value → State → Outcome → State → Prop} {XC : String → State → State → Prop} {free : Addr → Prop} {Ts : List Cond} {own C : String} {b : Addr} {As rest : List Value} {g : JFrame}
theorem vx_callBack (cb : CallB R s args own index y bytes maxL ret ws rm mc ms n) (hM : vx_Met l y ws rm Pc Qc XC mc ms free) (hbl : FrameBlind Pc) : vx_Back l R p e below s args y 3 8 (PreOf R mc ms Pc) (PostOf Qc mc ms free) (vx_Post XC mc ms free) := by
  obtain ⟨hrc, hrs, hfr, hlo, hws, hcw, -, hini, -⟩ := cb
  exact vx_back (bytes := bytes) (maxL := maxL) (ret := ret) hM hbl hrc hrs hfr hlo hws hcw (fun a' U hW => word_at hW (Or.inl (by first | rfl | simp [Cond.onTables, Cond.keeps, Cond.steady])) hini)
theorem vx_runV (S : CallFix p m c cc nL s args Ts own) (hM : vx_Met l y ws rm Pc Qc XC mc ms free) (cw : CallW R s args own C index y bytes maxL ret ws rm mc ms n) (hp : PreV s H C b Pc As)
    (hg : g.method = m) (hn : As.length = n) (hsize : g.locals.size = nL) (hstack : g.stack = As.reverse ++ .ref b :: rest) (hW : 2 * g.monitorRoom + (rest.map fun v => v.category).sum ≤ 8) (hdg : decode cc g.pc = .ok (.invokevirtual index, 3)) (hf : cells + mc ≤ R.cells ∧ slots + ms ≤ R.slots) :
    vx_Run p l e R s m args below meth c H locs cells slots mc ms g rest (Qc (Value.ref b :: As).toArray) XC free := by
  have hK : vx_Back l R p e below s args y 3 8 (PreOf R mc ms Pc) (PostOf Qc mc ms free) (vx_Post XC mc ms free) := vx_callBack cw.1 hM hp.1
  obtain ⟨⟨-, -, -, -, -, -, hcode, -, hy, hlen, hl⟩, hin, hse⟩ := cw
  obtain ⟨hx, hb, hml, ho, -⟩ := S
  obtain ⟨-, ⟨cellB, hcB, hoB, hclB⟩, hPc⟩ := hp
  intro T hT X
  rcases vx_callV X hx (C := C) (bytes := bytes) (maxL := maxL) (ret := ret) ho hl hin hse hcode hy hK (by rw [hT]; exact hcB) hoB hclB hg (hsize.trans hml.symm) (argsL := As) (rest := rest) (fun sig h => hn.trans (hlen sig h)) hstack hW (by rw [hb]; exact hdg)
    (fun vm₁ hW₁ => ⟨hf.1, hf.2, hPc (T.setVm vm₁) hT hW₁⟩) with ⟨v, vm₁, ⟨U', l2, c2, s2⟩, hW₁, X', ⟨g', mk, t, L, e1, e2, hq, h1, hL, h2, h3⟩, st⟩ | ⟨q, vm₁, ⟨U', l2, c2, s2⟩, hW₁, X', ⟨g', mk, t, L, E, ce, e1, e2, hq, hce, hcv, hcl, h1, hL, h2, h3⟩, st⟩
  · dsimp only [Pt.U, Pt.locs, Pt.cells, Pt.slots] at X' e1 e2 h1 h2 h3 st
    subst h1; subst h2; subst h3
    exact Or.inl ⟨v, (T.setVm vm₁).calling g' mk (Value.ref b :: As).toArray, t, U', L, hT, X', hL, e1, e2, hq, st⟩
  · dsimp only [Pt.U, Pt.locs, Pt.cells, Pt.slots] at X' e1 e2 h1 h2 h3 st hcl
    subst h1; subst h2; subst h3
    exact Or.inr ⟨q, (T.setVm vm₁).calling g' mk (Value.ref b :: As).toArray, t, U', L, E, ce, hT, X', hL, e1, e2, hq, hce, hcv, vx_cls hW₁ hcl, st⟩
theorem vx_runS (S : CallFix p m c cc nL s args Ts own) (hM : vx_Met l y ws rm Pc Qc XC mc ms free) (cw : CallB R s args own index y bytes maxL ret ws rm mc ms n ∧ (Cond.static y).before args s = true) (hp : PreS s H Pc As)
    (hg : g.method = m) (hn : As.length = n) (hsize : g.locals.size = nL) (hstack : g.stack = As.reverse ++ rest) (hW : 2 * g.monitorRoom + (rest.map fun v => v.category).sum ≤ 8) (hdg : decode cc g.pc = .ok (.invokestatic index, 3)) (hf : cells + mc ≤ R.cells ∧ slots + ms ≤ R.slots) :
    vx_Run p l e R s m args below meth c H locs cells slots mc ms g rest (Qc As.toArray) XC free := by
  have hK : vx_Back l R p e below s args y 3 8 (PreOf R mc ms Pc) (PostOf Qc mc ms free) (vx_Post XC mc ms free) := vx_callBack cw.1 hM hp.1
  obtain ⟨⟨-, -, -, -, -, -, hcode, hini, hy, hlen, hl⟩, hstt⟩ := cw
  obtain ⟨hx, hb, hml, ho, -⟩ := S
  intro T hT X
  rcases vx_callS X hx (bytes := bytes) (maxL := maxL) (ret := ret) ho hl hstt hini hcode hy hK hg (hsize.trans hml.symm) (argsL := As) (rest := rest) (fun sig h => hn.trans (hlen sig h)) hstack hW (by rw [hb]; exact hdg)
    (fun vm₁ hW₁ => ⟨hf.1, hf.2, hp.2 (T.setVm vm₁) hT hW₁⟩) with ⟨v, vm₁, ⟨U', l2, c2, s2⟩, hW₁, X', ⟨g', mk, t, L, e1, e2, hq, h1, hL, h2, h3⟩, st⟩ | ⟨q, vm₁, ⟨U', l2, c2, s2⟩, hW₁, X', ⟨g', mk, t, L, E, ce, e1, e2, hq, hce, hcv, hcl, h1, hL, h2, h3⟩, st⟩
  · dsimp only [Pt.U, Pt.locs, Pt.cells, Pt.slots] at X' e1 e2 h1 h2 h3 st
    subst h1; subst h2; subst h3
    exact Or.inl ⟨v, (T.setVm vm₁).calling g' mk As.toArray, t, U', L, hT, X', hL, e1, e2, hq, st⟩
  · dsimp only [Pt.U, Pt.locs, Pt.cells, Pt.slots] at X' e1 e2 h1 h2 h3 st hcl
    subst h1; subst h2; subst h3
    exact Or.inr ⟨q, (T.setVm vm₁).calling g' mk As.toArray, t, U', L, E, ce, hT, X', hL, e1, e2, hq, hce, hcv, vx_cls hW₁ hcl, st⟩
end Runs
section Rows
variable {p : Program} {l : Launch} {e : Env} {R : Room} {s : State} {m : MethodId} {args : Array Value} {below : List Frame} {meth : Method} {c : Code} {H : Heap} {locs : List Loc} {cells slots : Nat} {Q : State → Prop}
variable {mc ms : Nat} {free : Addr → Prop} {A0 A1 : Nat → Prop} {H0 : Heap} {a : Array Value} {pc : Nat} {ls : Array Slot} {st0 rest : List Value}
theorem vx_keep {st₀ t T' : State} {L : List Loc} (h0 : st₀.heap = H) (e1 : T'.heap = t.heap) (hS : va_S A0 H0 H locs) (hA : ∀ q, q < H.size → A1 q → A0 q) (hf : ∀ q, free q → A0 q) (hL : ∀ q ∈ L, free q.base) (hF : va_F A1 st₀ t) :
    H.size ≤ T'.heap.size ∧ (∀ q : Nat, q < H.size → ¬ A1 q → T'.heap[q]? = H[q]?) ∧ va_S A0 H0 T'.heap (locs ++ L) := by
  obtain ⟨hz, hk⟩ := hF
  rw [h0] at hz hk
  exact ⟨by rw [e1]; exact hz, fun q h1 h2 => by rw [e1]; exact hk q h1 h2,
    ⟨Nat.le_trans hS.1 (by rw [e1]; exact hz), fun q h1 h2 => by rw [e1, hk q (Nat.lt_of_lt_of_le h1 hS.1) (fun z => h2 (hA q (Nat.lt_of_lt_of_le h1 hS.1) z))]; exact hS.2.1 q h1 h2, fun q hq => by
      rcases List.mem_append.mp hq with h | h
      · exact hS.2.2 q h
      · exact hf _ (hL q h)⟩⟩
theorem vx_calli {S SX : Type} {post : Int32 → S → Prop} {px : SX → Prop} {B : S → State → Prop} {BX : String → SX → State → Prop} {AX : Nat → Prop} (hr : vx_Run p l e R s m args below meth c H locs cells slots mc ms (F0 m pc ls st0) rest (va_Qi post B A1 a) (vx_X px BX AX) free) (hS : va_S A0 H0 H locs) (hA : ∀ q, q < H.size → A1 q → A0 q) (hf : ∀ q, free q → A0 q) (hAX : ∀ q, q < H.size → AX q → A0 q)
    (kx : ∀ (E : String) (ce : Cell) (q9 : Addr) (u : SX) (t : State) (H1 : Heap) (locs1 : List Loc), t.heap = H1 → s.vm.Alike t.vm → px u → BX E u t → H.size ≤ H1.size → (∀ q : Nat, q < H.size → ¬ AX q → H1[q]? = H[q]?) → va_S A0 H0 H1 locs1 → H1[q9]? = some ce → ce.vm = .none → s.vm.findClass E = some ce.cls → vx_W p l e R s m args below meth c H1 locs1 (cells + mc) (slots + ms) Q (F0 m pc ls rest) q9)
    (kk : ∀ (r : Int32) (u : S) (t : State) (H1 : Heap) (locs1 : List Loc), t.heap = H1 → s.vm.Alike t.vm → post r u → B u t → H.size ≤ H1.size → (∀ q : Nat, q < H.size → ¬ A1 q → H1[q]? = H[q]?) → va_S A0 H0 H1 locs1 → W p l e R s m args below meth c H1 locs1 (cells + mc) (slots + ms) Q (F0 m (pc + 3) ls (.int r :: rest))) : W p l e R s m args below meth c H locs cells slots Q (F0 m pc ls st0) := by
  intro T hT X
  rcases hr T hT X with ⟨v, st₀, t, T', L, h0, X', hL, e1, e2, ⟨⟨r, u, hv, hp, hb⟩, hF⟩, st⟩ | ⟨q, st₀, t, T', L, E, ce, h0, X', hL, e1, e2, ⟨u, hp, hb, hF⟩, hce, hcv, hcl, st⟩
  · cases hv
    obtain ⟨k1, k2, k3⟩ := vx_keep h0 e1 hS hA hf hL hF
    obtain ⟨t2, a1, b1⟩ := kk r u t T'.heap (locs ++ L) e1.symm (by rw [← e2]; exact X'.warmed.alike) hp hb k1 k2 k3 T' rfl X'
    exact ⟨t2, st t2 a1, b1⟩
  · obtain ⟨k1, k2, k3⟩ := vx_keep h0 e1 hS hAX hf hL hF
    obtain ⟨t2, a1, b1⟩ := kx E ce q u t T'.heap (locs ++ L) e1.symm (by rw [← e2]; exact X'.warmed.alike) hp hb k1 k2 k3 (by rw [e1]; exact hce) hcv hcl T' rfl X'
    exact ⟨t2, st.trans a1, b1⟩
theorem vx_calll {S SX : Type} {post : Int64 → S → Prop} {px : SX → Prop} {B : S → State → Prop} {BX : String → SX → State → Prop} {AX : Nat → Prop} (hr : vx_Run p l e R s m args below meth c H locs cells slots mc ms (F0 m pc ls st0) rest (va_Ql post B A1 a) (vx_X px BX AX) free) (hS : va_S A0 H0 H locs) (hA : ∀ q, q < H.size → A1 q → A0 q) (hf : ∀ q, free q → A0 q) (hAX : ∀ q, q < H.size → AX q → A0 q)
    (kx : ∀ (E : String) (ce : Cell) (q9 : Addr) (u : SX) (t : State) (H1 : Heap) (locs1 : List Loc), t.heap = H1 → s.vm.Alike t.vm → px u → BX E u t → H.size ≤ H1.size → (∀ q : Nat, q < H.size → ¬ AX q → H1[q]? = H[q]?) → va_S A0 H0 H1 locs1 → H1[q9]? = some ce → ce.vm = .none → s.vm.findClass E = some ce.cls → vx_W p l e R s m args below meth c H1 locs1 (cells + mc) (slots + ms) Q (F0 m pc ls rest) q9)
    (kk : ∀ (r : Int64) (u : S) (t : State) (H1 : Heap) (locs1 : List Loc), t.heap = H1 → s.vm.Alike t.vm → post r u → B u t → H.size ≤ H1.size → (∀ q : Nat, q < H.size → ¬ A1 q → H1[q]? = H[q]?) → va_S A0 H0 H1 locs1 → W p l e R s m args below meth c H1 locs1 (cells + mc) (slots + ms) Q (F0 m (pc + 3) ls (.long r :: rest))) : W p l e R s m args below meth c H locs cells slots Q (F0 m pc ls st0) := by
  intro T hT X
  rcases hr T hT X with ⟨v, st₀, t, T', L, h0, X', hL, e1, e2, ⟨⟨r, u, hv, hp, hb⟩, hF⟩, st⟩ | ⟨q, st₀, t, T', L, E, ce, h0, X', hL, e1, e2, ⟨u, hp, hb, hF⟩, hce, hcv, hcl, st⟩
  · cases hv
    obtain ⟨k1, k2, k3⟩ := vx_keep h0 e1 hS hA hf hL hF
    obtain ⟨t2, a1, b1⟩ := kk r u t T'.heap (locs ++ L) e1.symm (by rw [← e2]; exact X'.warmed.alike) hp hb k1 k2 k3 T' rfl X'
    exact ⟨t2, st t2 a1, b1⟩
  · obtain ⟨k1, k2, k3⟩ := vx_keep h0 e1 hS hAX hf hL hF
    obtain ⟨t2, a1, b1⟩ := kx E ce q u t T'.heap (locs ++ L) e1.symm (by rw [← e2]; exact X'.warmed.alike) hp hb k1 k2 k3 (by rw [e1]; exact hce) hcv hcl T' rfl X'
    exact ⟨t2, st.trans a1, b1⟩
theorem vx_callf {S SX : Type} {post : UInt32 → S → Prop} {px : SX → Prop} {B : S → State → Prop} {BX : String → SX → State → Prop} {AX : Nat → Prop} (hr : vx_Run p l e R s m args below meth c H locs cells slots mc ms (F0 m pc ls st0) rest (va_Qf post B A1 a) (vx_X px BX AX) free) (hS : va_S A0 H0 H locs) (hA : ∀ q, q < H.size → A1 q → A0 q) (hf : ∀ q, free q → A0 q) (hAX : ∀ q, q < H.size → AX q → A0 q)
    (kx : ∀ (E : String) (ce : Cell) (q9 : Addr) (u : SX) (t : State) (H1 : Heap) (locs1 : List Loc), t.heap = H1 → s.vm.Alike t.vm → px u → BX E u t → H.size ≤ H1.size → (∀ q : Nat, q < H.size → ¬ AX q → H1[q]? = H[q]?) → va_S A0 H0 H1 locs1 → H1[q9]? = some ce → ce.vm = .none → s.vm.findClass E = some ce.cls → vx_W p l e R s m args below meth c H1 locs1 (cells + mc) (slots + ms) Q (F0 m pc ls rest) q9)
    (kk : ∀ (r : UInt32) (u : S) (t : State) (H1 : Heap) (locs1 : List Loc), t.heap = H1 → s.vm.Alike t.vm → post r u → B u t → H.size ≤ H1.size → (∀ q : Nat, q < H.size → ¬ A1 q → H1[q]? = H[q]?) → va_S A0 H0 H1 locs1 → W p l e R s m args below meth c H1 locs1 (cells + mc) (slots + ms) Q (F0 m (pc + 3) ls (.float r :: rest))) : W p l e R s m args below meth c H locs cells slots Q (F0 m pc ls st0) := by
  intro T hT X
  rcases hr T hT X with ⟨v, st₀, t, T', L, h0, X', hL, e1, e2, ⟨⟨r, u, hv, hp, hb⟩, hF⟩, st⟩ | ⟨q, st₀, t, T', L, E, ce, h0, X', hL, e1, e2, ⟨u, hp, hb, hF⟩, hce, hcv, hcl, st⟩
  · cases hv
    obtain ⟨k1, k2, k3⟩ := vx_keep h0 e1 hS hA hf hL hF
    obtain ⟨t2, a1, b1⟩ := kk r u t T'.heap (locs ++ L) e1.symm (by rw [← e2]; exact X'.warmed.alike) hp hb k1 k2 k3 T' rfl X'
    exact ⟨t2, st t2 a1, b1⟩
  · obtain ⟨k1, k2, k3⟩ := vx_keep h0 e1 hS hAX hf hL hF
    obtain ⟨t2, a1, b1⟩ := kx E ce q u t T'.heap (locs ++ L) e1.symm (by rw [← e2]; exact X'.warmed.alike) hp hb k1 k2 k3 (by rw [e1]; exact hce) hcv hcl T' rfl X'
    exact ⟨t2, st.trans a1, b1⟩
theorem vx_calld {S SX : Type} {post : UInt64 → S → Prop} {px : SX → Prop} {B : S → State → Prop} {BX : String → SX → State → Prop} {AX : Nat → Prop} (hr : vx_Run p l e R s m args below meth c H locs cells slots mc ms (F0 m pc ls st0) rest (va_Qd post B A1 a) (vx_X px BX AX) free) (hS : va_S A0 H0 H locs) (hA : ∀ q, q < H.size → A1 q → A0 q) (hf : ∀ q, free q → A0 q) (hAX : ∀ q, q < H.size → AX q → A0 q)
    (kx : ∀ (E : String) (ce : Cell) (q9 : Addr) (u : SX) (t : State) (H1 : Heap) (locs1 : List Loc), t.heap = H1 → s.vm.Alike t.vm → px u → BX E u t → H.size ≤ H1.size → (∀ q : Nat, q < H.size → ¬ AX q → H1[q]? = H[q]?) → va_S A0 H0 H1 locs1 → H1[q9]? = some ce → ce.vm = .none → s.vm.findClass E = some ce.cls → vx_W p l e R s m args below meth c H1 locs1 (cells + mc) (slots + ms) Q (F0 m pc ls rest) q9)
    (kk : ∀ (r : UInt64) (u : S) (t : State) (H1 : Heap) (locs1 : List Loc), t.heap = H1 → s.vm.Alike t.vm → post r u → B u t → H.size ≤ H1.size → (∀ q : Nat, q < H.size → ¬ A1 q → H1[q]? = H[q]?) → va_S A0 H0 H1 locs1 → W p l e R s m args below meth c H1 locs1 (cells + mc) (slots + ms) Q (F0 m (pc + 3) ls (.double r :: rest))) : W p l e R s m args below meth c H locs cells slots Q (F0 m pc ls st0) := by
  intro T hT X
  rcases hr T hT X with ⟨v, st₀, t, T', L, h0, X', hL, e1, e2, ⟨⟨r, u, hv, hp, hb⟩, hF⟩, st⟩ | ⟨q, st₀, t, T', L, E, ce, h0, X', hL, e1, e2, ⟨u, hp, hb, hF⟩, hce, hcv, hcl, st⟩
  · cases hv
    obtain ⟨k1, k2, k3⟩ := vx_keep h0 e1 hS hA hf hL hF
    obtain ⟨t2, a1, b1⟩ := kk r u t T'.heap (locs ++ L) e1.symm (by rw [← e2]; exact X'.warmed.alike) hp hb k1 k2 k3 T' rfl X'
    exact ⟨t2, st t2 a1, b1⟩
  · obtain ⟨k1, k2, k3⟩ := vx_keep h0 e1 hS hAX hf hL hF
    obtain ⟨t2, a1, b1⟩ := kx E ce q u t T'.heap (locs ++ L) e1.symm (by rw [← e2]; exact X'.warmed.alike) hp hb k1 k2 k3 (by rw [e1]; exact hce) hcv hcl T' rfl X'
    exact ⟨t2, st.trans a1, b1⟩
theorem vx_callv {S SX : Type} {post : S → Prop} {px : SX → Prop} {B : S → State → Prop} {BX : String → SX → State → Prop} {AX : Nat → Prop} (hr : vx_Run p l e R s m args below meth c H locs cells slots mc ms (F0 m pc ls st0) rest (va_Qv post B A1 a) (vx_X px BX AX) free) (hS : va_S A0 H0 H locs) (hA : ∀ q, q < H.size → A1 q → A0 q) (hf : ∀ q, free q → A0 q) (hAX : ∀ q, q < H.size → AX q → A0 q)
    (kx : ∀ (E : String) (ce : Cell) (q9 : Addr) (u : SX) (t : State) (H1 : Heap) (locs1 : List Loc), t.heap = H1 → s.vm.Alike t.vm → px u → BX E u t → H.size ≤ H1.size → (∀ q : Nat, q < H.size → ¬ AX q → H1[q]? = H[q]?) → va_S A0 H0 H1 locs1 → H1[q9]? = some ce → ce.vm = .none → s.vm.findClass E = some ce.cls → vx_W p l e R s m args below meth c H1 locs1 (cells + mc) (slots + ms) Q (F0 m pc ls rest) q9)
    (kk : ∀ (u : S) (t : State) (H1 : Heap) (locs1 : List Loc), t.heap = H1 → s.vm.Alike t.vm → post u → B u t → H.size ≤ H1.size → (∀ q : Nat, q < H.size → ¬ A1 q → H1[q]? = H[q]?) → va_S A0 H0 H1 locs1 → W p l e R s m args below meth c H1 locs1 (cells + mc) (slots + ms) Q (F0 m (pc + 3) ls (rest))) : W p l e R s m args below meth c H locs cells slots Q (F0 m pc ls st0) := by
  intro T hT X
  rcases hr T hT X with ⟨v, st₀, t, T', L, h0, X', hL, e1, e2, ⟨⟨u, hv, hp, hb⟩, hF⟩, st⟩ | ⟨q, st₀, t, T', L, E, ce, h0, X', hL, e1, e2, ⟨u, hp, hb, hF⟩, hce, hcv, hcl, st⟩
  · cases hv
    obtain ⟨k1, k2, k3⟩ := vx_keep h0 e1 hS hA hf hL hF
    obtain ⟨t2, a1, b1⟩ := kk u t T'.heap (locs ++ L) e1.symm (by rw [← e2]; exact X'.warmed.alike) hp hb k1 k2 k3 T' rfl X'
    exact ⟨t2, st t2 a1, b1⟩
  · obtain ⟨k1, k2, k3⟩ := vx_keep h0 e1 hS hAX hf hL hF
    obtain ⟨t2, a1, b1⟩ := kx E ce q u t T'.heap (locs ++ L) e1.symm (by rw [← e2]; exact X'.warmed.alike) hp hb k1 k2 k3 (by rw [e1]; exact hce) hcv hcl T' rfl X'
    exact ⟨t2, st.trans a1, b1⟩
/-- caught by the row x of this method's table; the rows ahead don't take it -/
theorem vx_catch {own name : String} {E : String} {ce : Cell} {q : Addr} (hown : s.vm.findClass own = some m.cls) (pre : List ExceptionTableEntry) (x : ExceptionTableEntry) (suf : List ExceptionTableEntry) (hsplit : c.exceptionTable.toList = pre ++ x :: suf)
    (hpass : ∀ z ∈ pre, covers z pc = false ∨ (z.catchType ≠ 0 ∧ ∃ nm : String, (Cond.classLink own z.catchType nm).before args s = true ∧ va_Nc E nm s)) (hx : covers x pc = true) (h0 : x.catchType ≠ 0)
    (hlink : (Cond.classLink own x.catchType name).before args s = true) (hcast : (Cond.castable E name).before args s = true) (hcell : H[q]? = some ce) (hv : ce.vm = .none) (hcl : s.vm.findClass E = some ce.cls)
    (kk : W p l e R s m args below meth c H locs cells slots Q (F0 m x.handlerPc ls [.ref q])) : vx_W p l e R s m args below meth c H locs cells slots Q (F0 m pc ls rest) q := by
  intro T hT X
  have hpl : e.platform.magicAccessors = ({} : Platform).magicAccessors := by rw [X.admits.platform]
  obtain ⟨c3, c4, hc3, hc4, hasg⟩ := Cond.castable_spec hcast
  cases Option.some.inj (hc3.symm.trans hcl)
  obtain ⟨c5, hc5, hcl5⟩ := Cond.classLink_spec hown hlink e.platform hpl
  cases Option.some.inj (hc4.symm.trans hc5)
  obtain ⟨vm', X', st⟩ := X.thenCaughtThrough q (g := F0 m pc ls rest) rfl (Steps.refl _) (by rw [hT]; exact hcell) (by rw [hv]; rfl) (by obtain ⟨k9, h9, -⟩ := Vm.findClass_spec hcl; exact ⟨k9, h9⟩) pre x suf hsplit
    (fun z hz => by
      rcases hpass z hz with h | ⟨hz0, nm, hl1, hn1⟩
      · exact Or.inl h
      · obtain ⟨c6, hc6, hcl6⟩ := Cond.classLink_spec hown hl1 e.platform hpl
        obtain ⟨a8, b8, h1, h2, h3⟩ := hn1
        cases Option.some.inj (h1.symm.trans hcl)
        cases Option.some.inj (h2.symm.trans hc6)
        exact Or.inr ⟨hz0, _, hcl6, h3⟩) hx (Or.inr ⟨h0, c4, hcl5, hasg⟩)
  obtain ⟨t, a1, b1⟩ := kk (T.setVm vm') hT X'
  exact ⟨t, st.trans a1, b1⟩
end Rows
section Ends
variable {p : Program} {l : Launch} {e : Env} {R : Room} {s : State} {m : MethodId} {args : Array Value} {below : List Frame} {meth : Method} {c : Code} {H : Heap} {locs : List Loc} {cells slots : Nat} {Q : State → Prop}
variable {mc ms : Nat} {free : Addr → Prop} {A0 A1 : Nat → Prop} {H0 : Heap} {a : Array Value} {ls : Array Slot} {st0 rest : List Value}
variable {Qc : Array Value → State → Outcome → State → Prop} {XC : String → State → State → Prop}
/-- what a body that may throw owes at its end -/
def vx_MQ (below : List Frame) (Qc : Array Value → State → Outcome → State → Prop) (XC : String → State → State → Prop) (a : Array Value) (s : State) (mc ms : Nat) (free : Addr → Prop) : State → Prop := fun t =>
  ∃ o, t.status = .running ∧ Ended t below o ∧ vx_Q Qc XC mc ms free a s o t
theorem vx_ret {g : JFrame} {mc ms : Nat} (k : W p l e R s m args below meth c H locs cells slots (MQ below Qc args s mc ms free) g) : W p l e R s m args below meth c H locs cells slots (vx_MQ below Qc XC args s mc ms free) g := by
  intro T hT X
  obtain ⟨t, a1, o, b1, b2, b3, b4⟩ := k T hT X
  exact ⟨t, a1, o, b1, b2, Or.inl ⟨b3, b4⟩⟩
/-- not caught here: it goes on to the caller -/
theorem vx_widen {g : JFrame} {q : Addr} {k n : Nat} (h1 : cells ≤ k) (h2 : slots ≤ n) (kk : vx_W p l e R s m args below meth c H locs k n Q g q) : vx_W p l e R s m args below meth c H locs cells slots Q g q := fun T hT X => kk T hT (stand_widen X h1 h2)
theorem vx_out {pc : Nat} {E : String} {ce : Cell} {q : Addr} {mc ms : Nat} (hout : ∀ x ∈ c.exceptionTable.toList, covers x pc = false) (hlocks : meth.locks = false) (hcell : H[q]? = some ce) (hv : ce.vm = .none) (hcl : s.vm.findClass E = some ce.cls)
    (hx : ∀ t : State, t.heap = H → s.vm.Alike t.vm → XC E s t) (hf : ∀ z ∈ locs, free z.base) (hc : cells ≤ mc) (hs : slots ≤ ms) :
    vx_W p l e R s m args below meth c H locs cells slots (vx_MQ below Qc XC args s mc ms free) (F0 m pc ls rest) q := by
  intro T hT X
  obtain ⟨st1, hrun, hend, hW, hsm⟩ := X.leaveThrown q (g := F0 m pc ls rest) rfl rfl rfl hout hlocks
  have hcell9 : (T.setFrames (.throwing q :: below)).heap[q]? = some ce := by
    show T.heap[q]? = some ce
    rw [hT]; exact hcell
  exact ⟨_, st1, .threw q, hrun, hend, Or.inr ⟨q, rfl, E, ce, locs, hx _ hT hW.alike, hcell9, hv, hcl, hW, hsm.mono hc hs, hf⟩⟩
theorem vx_frame {U : State} {k n : Nat} (h : s.sameButNew ({ U with vm := s.vm } : State) locs k n) : s.heap.size ≤ U.heap.size ∧ ∀ q : Nat, q < s.heap.size → (∀ z ∈ locs, z.base ≠ q) → U.heap[q]? = s.heap[q]? := by
  obtain ⟨-, h2, -, -, -, h6⟩ := h
  refine ⟨h2, fun q hq hz => ?_⟩
  obtain ⟨c9, e1, e2, e3, e4⟩ := h6 q _ (Array.getElem?_eq_getElem hq)
  have hs : c9.slots = (s.heap[q]).slots := Array.ext_getElem? fun i => e4 i fun hm => hz _ hm rfl
  have h9 : c9 = s.heap[q] := by
    rw [hs] at e2
    exact e2
  have e5 : U.heap[q]? = some c9 := e1
  rw [e5, h9, Array.getElem?_eq_getElem hq]
/-- the words of a throw but the four that speak of the heap -/
def vx_no (w : Cond) : Bool := decide (w ≠ .isRef (.static Bundle.tN "UNASSIGNED_STACK" Bundle.steD)) && decide (w ≠ .isRef (.static Bundle.tN "SUPPRESSED_SENTINEL" Bundle.listD)) && decide (w ≠ .laysStatic Bundle.tN "UNASSIGNED_STACK" Bundle.steD) && decide (w ≠ .laysStatic Bundle.tN "SUPPRESSED_SENTINEL" Bundle.listD)
def vx_at0 (own : String) (ic : Nat) (X : String) (names : List String) : List Cond := (Bundle.ownAtoms0 own ic X names).filter vx_no
def vx_atS (own : String) (ic : Nat) (X : String) (names : List String) : List Cond := (Bundle.ownAtoms own ic X names).filter vx_no
/-- a word that the tables alone decide, or a good one -/
def vx_ot (w : Cond) : Bool := w.onTables || goodWord w
theorem vx_ot_at {args a' : Array Value} {s U : State} {w : Cond} (hW : s.WarmedH U.vm) (hvm : s.vm = U.vm) (hg : vx_ot w = true) (h : w.before args s = true) : w.before a' U = true := by
  simp only [vx_ot, Bool.or_eq_true] at hg
  rcases hg with hg | hg
  · exact va_tabs hg hvm h
  · exact word_at hW (good_of_word hg) h
/-- a list's words: the good ones out of the method's own list, the others by premises of their own -/
theorem vx_hat {args : Array Value} {s : State} {L B : List Cond} (h1 : ∀ w ∈ L.filter goodWord, w.before args s = true) (h2 : ∀ w ∈ L.filter (fun w => !goodWord w), w ∈ B) (h3 : ∀ w ∈ B, w.before args s = true) : ∀ w ∈ L, w.before args s = true := by
  intro w hw
  by_cases g : goodWord w = true
  · exact h1 w (List.mem_filter.mpr ⟨hw, g⟩)
  · refine h3 w (h2 w (List.mem_filter.mpr ⟨hw, ?_⟩))
    show (!goodWord w) = true
    cases hgw : goodWord w
    · rfl
    · exact absurd hgw g
theorem vx_c {args : Array Value} {s : State} {w : Cond} {B : List Cond} (h : w.before args s = true) (t : ∀ w ∈ B, w.before args s = true) : ∀ w' ∈ w :: B, w'.before args s = true := fun w' h' => (List.mem_cons.mp h').elim (fun e => by rw [e]; exact h) (t w')
theorem vx_n {args : Array Value} {s : State} : ∀ w ∈ ([] : List Cond), w.before args s = true := fun _ h => nomatch h
theorem vx_own {args : Array Value} {s : State} {L : List Cond} (h1 : ∀ w ∈ L.filter vx_no, w.before args s = true)
    (hU : (Cond.isRef (.static Bundle.tN "UNASSIGNED_STACK" Bundle.steD)).before args s = true) (hN : (Cond.isRef (.static Bundle.tN "SUPPRESSED_SENTINEL" Bundle.listD)).before args s = true)
    (lU : (Cond.laysStatic Bundle.tN "UNASSIGNED_STACK" Bundle.steD).before args s = true) (lN : (Cond.laysStatic Bundle.tN "SUPPRESSED_SENTINEL" Bundle.listD).before args s = true) : ∀ w ∈ L, w.before args s = true := by
  intro w hw
  by_cases e1 : w = .isRef (.static Bundle.tN "UNASSIGNED_STACK" Bundle.steD)
  · rw [e1]; exact hU
  · by_cases e2 : w = .isRef (.static Bundle.tN "SUPPRESSED_SENTINEL" Bundle.listD)
    · rw [e2]; exact hN
    · by_cases e3 : w = .laysStatic Bundle.tN "UNASSIGNED_STACK" Bundle.steD
      · rw [e3]; exact lU
      · by_cases e4 : w = .laysStatic Bundle.tN "SUPPRESSED_SENTINEL" Bundle.listD
        · rw [e4]; exact lN
        · exact h1 w (List.mem_filter.mpr ⟨hw, by unfold vx_no; rw [decide_eq_true e1, decide_eq_true e2, decide_eq_true e3, decide_eq_true e4]; rfl⟩)
/-- where a static field lies, its class's statics cell in H -/
def vx_L (C n d : String) (A : Nat → Prop) (U : State) (H : Heap) : Prop := ∃ (c : ClassId) (k : Class) (i : Nat) (f : Field) (a : Nat) (cell : Cell), U.vm.findClass C = some c ∧ U.fieldFound? C n d = some (c, k, i, f) ∧ f.isStatic = true ∧ k.statics = some a ∧ H[a]? = some cell ∧ cell.vm.isStatics = true ∧ cell.cls = c ∧ f.slot < cell.slots.size ∧ k.staticTypes[f.slot]? = some f.type ∧ ¬ A a
theorem vx_L.moved {C n d : String} {A : Nat → Prop} {u U : State} {H : Heap} (hvm : u.vm.Alike U.vm) (h : vx_L C n d A u H) : vx_L C n d A U H := by
  obtain ⟨c, k, i, f, a, cell, h1, h2, h3, h4, h5, h6, h7, h8, h9, h10⟩ := h
  obtain ⟨k', hi', he⟩ := State.fieldFound?_setVm hvm h2
  exact ⟨c, k', i, f, a, cell, by rw [hvm.findClass]; exact h1, hi', h3, by rw [he]; exact h4, h5, h6, h7, h8, by rw [he]; exact h9, h10⟩
theorem vx_L.kept {C n d : String} {A : Nat → Prop} {U : State} {H H1 : Heap} (h : vx_L C n d A U H) (hq : ∀ a : Nat, a < H.size → ¬ A a → H1[a]? = H[a]?) : vx_L C n d A U H1 := by
  obtain ⟨c, k, i, f, a, cell, h1, h2, h3, h4, h5, h6, h7, h8, h9, h10⟩ := h
  exact ⟨c, k, i, f, a, cell, h1, h2, h3, h4, by rw [hq a (Array.getElem?_eq_some_iff.mp h5).1 h10]; exact h5, h6, h7, h8, h9, h10⟩
theorem vx_L.narrow {C n d : String} {A B : Nat → Prop} {U : State} {H : Heap} (h : vx_L C n d A U H) (hAB : ∀ q, B q → A q) : vx_L C n d B U H := by
  obtain ⟨c, k, i, f, a, cell, h1, h2, h3, h4, h5, h6, h7, h8, h9, h10⟩ := h
  exact ⟨c, k, i, f, a, cell, h1, h2, h3, h4, h5, h6, h7, h8, h9, fun z => h10 (hAB _ z)⟩
theorem vx_L.word {C n d : String} {A : Nat → Prop} {s : State} {args : Array Value} (h : vx_L C n d A s s.heap) : (Cond.laysStatic C n d).before args s = true := by
  obtain ⟨c, k, i, f, a, cell, h1, h2, h3, h4, h5, h6, h7, h8, h9, -⟩ := h
  show (Cond.laysStatic C n d).holds args s none s [] = true
  exact Cond.laysStatic_of h1 h2 h3 h4 h5 h6 h7 h8 h9
/-- .. and what it holds: null or some reference -/
def vx_Zq (C n d : String) (A : Nat → Prop) (U : State) (H : Heap) : Prop := va_Zq C n d A U H ∧ vx_L C n d A U H
theorem vx_Zq.moved {C n d : String} {A : Nat → Prop} {u U : State} {H : Heap} (hvm : u.vm.Alike U.vm) (h : vx_Zq C n d A u H) : vx_Zq C n d A U H := ⟨va_Zq.moved hvm h.1, vx_L.moved hvm h.2⟩
theorem vx_Zq.kept {C n d : String} {A : Nat → Prop} {U : State} {H H1 : Heap} (h : vx_Zq C n d A U H) (hq : ∀ a : Nat, a < H.size → ¬ A a → H1[a]? = H[a]?) : vx_Zq C n d A U H1 := ⟨va_Zq.kept h.1 hq, vx_L.kept h.2 hq⟩
theorem vx_Zq.narrow {C n d : String} {A B : Nat → Prop} {U : State} {H : Heap} (h : vx_Zq C n d A U H) (hAB : ∀ q, B q → A q) : vx_Zq C n d B U H := ⟨va_Zq.narrow h.1 hAB, vx_L.narrow h.2 hAB⟩
theorem vx_Zqof {args : Array Value} {s : State} {C n d : String} {A : Nat → Prop} (hl : (Cond.laysStatic C n d).before args s = true) (hini : (Cond.initialized C).before args s = true) (h : (Cond.isRef (.static C n d)).before args s = true) (hA : ∀ a : Nat, a < s.heap.size → ¬ A a) : vx_Zq C n d A s s.heap := by
  refine ⟨va_Zqof hl hini h hA, ?_⟩
  obtain ⟨c, k, i, f, a, cell, h1, h2, h3, h4, h5, h6, h7, h8, h9⟩ := Cond.laysStatic_spec hl
  exact ⟨c, k, i, f, a, cell, h1, h2, h3, h4, h5, h6, h7, h8, h9, hA a (Array.getElem?_eq_some_iff.mp h5).1⟩
theorem vx_isRef {C n d : String} {v : Value} {A : Nat → Prop} {s : State} {args : Array Value} (h : va_Z C n d v A s s.heap) (hv : v.isRef = true) : (Cond.isRef (.static C n d)).before args s = true := by
  obtain ⟨cf, kf, fi, f, a, cell, h1, h2, h3, h4, h5, h6, h7, -⟩ := h
  have he : (Term.static C n d).eval args s none [] s = some v := by
    simp [Term.eval, State.fieldNamed?, h1, h2, h4, h5, h6, h7]
  simp only [Cond.before, Cond.holds, Cond.value, he]
  cases v <;> simp_all [Value.isRef]
theorem vx_isRefq {C n d : String} {A : Nat → Prop} {s : State} {args : Array Value} (h : va_Zq C n d A s s.heap) : (Cond.isRef (.static C n d)).before args s = true := by
  rcases h with h | ⟨t, h⟩
  · exact vx_isRef h rfl
  · exact vx_isRef h rfl
/-- the same frame, seen from here: as if the method were called anew in this heap -/
theorem vx_rebase {T : State} (X : Stand p l e R s m args below meth c T locs cells slots) {R' : Room} (hf : R'.frames ≤ R.frames) (hl : R'.locals ≤ R.locals) (hc : cells + R'.cells ≤ R.cells) (hs : slots + R'.slots ≤ R.slots) :
    Stand p l e R' ((T.setVm s.vm).setFrames (.invoking m args :: below)) m args below meth c T [] 0 0 := by
  have htop : (T.setVm s.vm).topJava?.isSome := X.here.top
  have hF : ((T.setVm s.vm).setFrames (.invoking m args :: below)).frames = .invoking m args :: below := State.frames_setFrames _ (State.cur_lt_of_top htop)
  obtain ⟨g₀, hg0⟩ := Option.isSome_iff_exists.mp htop
  obtain ⟨r, hr⟩ := State.topJava?_eq_some.mp hg0
  have hl9 : e.platform.stackLimits (T.setVm s.vm).me = e.platform.stackLimits s.me := X.limits
  have hb9 : (T.setVm s.vm).me.stackBytes = s.me.stackBytes := X.bytes
  refine ⟨X.admits, X.cas, X.clock, hF, ?_, X.hears, X.method, X.code, X.here, X.tail, X.warmed, ?_, ?_, ?_⟩
  · have h := X.room
    have hU : ((T.setVm s.vm).setFrames (.invoking m args :: below)).localsInUse = s.localsInUse := by
      rw [State.localsInUse_invoking hF (meth := meth) (c := c) X.method X.code, State.localsInUse_invoking X.frames X.method X.code]
    simp only [State.hasRoom, Bool.and_eq_true, decide_eq_true_eq] at h ⊢
    obtain ⟨⟨⟨⟨h1, h2, h3, h4, h5, h6⟩, h7⟩, h8⟩, h9⟩ := h
    rw [X.frames, List.length_cons] at h2 h3
    have q1 := X.heapSize
    have q2 := X.used
    simp only [hF, hU, List.length_cons, State.stackLimits_setFrames, State.stackBytes_setFrames, hl9, hb9]
    refine ⟨⟨⟨⟨by omega, by omega, by omega, by omega, by omega, h6⟩, ?_⟩, ?_⟩, X.book⟩
    · show T.heap.size + R'.cells ≤ e.platform.maxCells
      omega
    · show T.slotsUsed + R'.slots ≤ e.platform.maxSlots
      omega
  · rw [State.stackLimits_setFrames]; rfl
  · rw [State.stackBytes_setFrames]; rfl
  · refine ⟨?_, Nat.le_refl _, Nat.le_refl _, ?_, ?_, fun a c9 h9 => ⟨c9, h9, rfl, rfl, fun _ _ => rfl⟩⟩
    · obtain ⟨t, ht, -⟩ := State.frames_cons hr
      show T.setVm s.vm = { ((T.setVm s.vm).setFrames (.invoking m args :: below)).setFrames (T.setVm s.vm).frames with heap := T.heap, slotsUsed := T.slotsUsed }
      rw [State.setFrames_setFrames, State.setFrames_self ht]
      rfl
    · show T.slotsUsed = T.slotsUsed + ((T.heap.toList.drop T.heap.size).map (·.slots.size)).sum
      rw [List.drop_eq_nil_of_le (Nat.le_of_eq Array.length_toList)]
      rfl
    · show ((T.heap.toList.drop T.heap.size).map (·.slots.size)).sum ≤ 0
      rw [List.drop_eq_nil_of_le (Nat.le_of_eq Array.length_toList)]
      exact Nat.le_refl _
/-- 'throw new E()': new; dup; invokespecial; athrow -/
theorem vx_throw0 {cc : ByteArray} {pc : Nat} (hexec : p.tables.exec = Jvm.exec) (hb : c.code = cc) (hl : l.stackTraces = false) {own cls : String} {names : List String} {ik ic mc ms : Nat} {A : Nat → Prop}
    (hown : s.vm.findClass own = some m.cls) (hcls : Bundle.fit cls = true) (hnames : ∀ n ∈ names, Bundle.fit n = true)
    (hk : (Cond.classLink own ik cls).before args s = true) (hini : (Cond.initialized cls).before args s = true) (hat : ∀ w ∈ vx_at0 own ic cls names, w.before args s = true)
    (hgood : ∀ w ∈ Cond.classLink own ik cls :: Cond.initialized cls :: vx_at0 own ic cls names, vx_ot w = true)
    (hU : vx_Zq Bundle.tN "UNASSIGNED_STACK" Bundle.steD A s s.heap) (hN : vx_Zq Bundle.tN "SUPPRESSED_SENTINEL" Bundle.listD A s s.heap) (hS : va_S A s.heap H locs) (hsize : ls.size = c.maxLocals)
    (d0 : decode cc pc = .ok (.new ik, 3)) (d3 : decode cc (pc + 3) = .ok (.dup, 1)) (d4 : decode cc (pc + 4) = .ok (.invokespecial ic, 3)) (d7 : decode cc (pc + 7) = .ok (.athrow, 1))
    (hout : ∀ x ∈ c.exceptionTable.toList, covers x (pc + 7) = false)
    (hRframes : names.length + 3 < R.frames) (hRlocals : (rest.map fun v => v.category).sum + (13 * (names.length + 1) + 42) ≤ R.locals) (hRcells : cells + 1 ≤ R.cells) (hRslots : slots + 6 ≤ R.slots) (hlocks : meth.locks = false)
    (hx : ∀ t : State, s.vm.Alike t.vm → H.size ≤ t.heap.size → (∀ q : Nat, q < H.size → t.heap[q]? = H[q]?) → XC cls s t)
    (hf : ∀ z ∈ locs, free z.base) (hc : cells + 1 ≤ mc) (hs : slots + 6 ≤ ms) :
    W p l e R s m args below meth c H locs cells slots (vx_MQ below Qc XC args s mc ms free) (F0 m pc ls rest) := by
  intro T hT X
  have htr : e.platform.stackTraces = false := (show e.platform.stackTraces = l.stackTraces by rw [X.admits.platform]).trans hl
  have Y := vx_rebase X (R' := { frames := R.frames, locals := R.locals, cells := 1, slots := 6 }) (Nat.le_refl _) (Nat.le_refl _) hRcells hRslots
  obtain ⟨s', hA⟩ : ∃ z, z = (T.setVm s.vm).setFrames (.invoking m args :: below) := ⟨_, rfl⟩
  rw [← hA] at Y
  have hvm : s'.vm = s.vm := by rw [hA]; rfl
  have hhp : s'.heap = H := by rw [hA]; exact hT
  have hW0 : s.WarmedH s'.vm := by rw [hvm]; exact State.WarmedH.refl s
  have hat' : ∀ w ∈ vx_at0 own ic cls names, w.before args s' = true := fun w hw => vx_ot_at hW0 hvm.symm (hgood w (List.mem_cons_of_mem _ (List.mem_cons_of_mem _ hw))) (hat w hw)
  have hk' : (Cond.classLink own ik cls).before args s' = true := vx_ot_at hW0 hvm.symm (hgood _ List.mem_cons_self) hk
  have hini' : (Cond.initialized cls).before args s' = true := vx_ot_at hW0 hvm.symm (hgood _ (List.mem_cons_of_mem _ List.mem_cons_self)) hini
  have hU' : vx_Zq Bundle.tN "UNASSIGNED_STACK" Bundle.steD A s' s'.heap := by rw [hhp]; exact vx_Zq.moved hW0.alike (hU.kept hS.2.1)
  have hN' : vx_Zq Bundle.tN "SUPPRESSED_SENTINEL" Bundle.listD A s' s'.heap := by rw [hhp]; exact vx_Zq.moved hW0.alike (hN.kept hS.2.1)
  have h : ∀ w ∈ Bundle.ownAtoms0 own ic cls names, w.before args s' = true := vx_own hat' (vx_isRefq hU'.1) (vx_isRefq hN'.1) hU'.2.word hN'.2.word
  have hown' : s'.vm.findClass own = some m.cls := by rw [hvm]; exact hown
  have hins : (Cond.instantiable cls 6).before args s' = true := h _ (by simp [Bundle.ownAtoms0])
  obtain ⟨vm₁, cX, kX, hfX, hkX, -, -, X₁, st1⟩ := Y.newCold hexec (own := own) (C := cls) (index := ik) (n := 6) hown' hk' hins hini'
    (g := F0 m pc ls rest) rfl (by rw [hb]; exact d0) (Nat.le_refl _) (Nat.le_refl _)
  generalize hT1 : (T.setVm vm₁).pushCell { cls := cX, slots := kX.instanceTypes.map defaultValue, vm := .none } = T1 at X₁ st1
  have hcat : (Value.ref T.heap.size).category = 1 := rfl
  have hcellA : T1.heap[T.heap.size]? = some (freshCell cX kX) := by rw [← hT1]; exact State.heap_pushCell_size _ _
  have d3' : decode c.code (pc + 3) = .ok (.dup, 1) := by rw [hb]; exact d3
  obtain ⟨U, hsteps, hrun, hend, hW, hsame, ce, hce, hO⟩ := X₁.ctorThrow0 hexec htr (own := own) (cls := cls) (names := names) (ic := ic) hown' hcls hnames h (fun x hx => nomatch hx) hfX hkX hcellA (by rw [hhp, hT]; exact Nat.le_refl _)
    (g := { method := m, pc := pc + 4, locals := ls, stack := .ref T.heap.size :: .ref T.heap.size :: rest, locked := none }) rfl hsize rfl rfl (rest := rest) rfl
    (by rw [hb]; exact d4) (by rw [hb]; exact d7) hout hRframes (by simp only [List.map_cons, List.sum_cons, hcat]; omega) hlocks
  obtain ⟨f1, f2⟩ := vx_frame hsame
  rw [hhp] at f1 f2
  have hWs : s.WarmedH U.vm := State.WarmedH.trans hW0 hW
  have hcl : s.vm.findClass cls = some ce.cls := by
    have h9 := hO.cls
    rw [hvm] at h9
    exact h9
  have hall : s.sameButNew ({ U with vm := s.vm } : State) locs mc ms := by
    subst hA
    obtain ⟨e1, e2⟩ := hsame
    rw [State.setFrames_setFrames] at e1
    have h2 : (T.setVm s.vm).sameButNew ({ U with vm := s.vm } : State) [] (0 + 1) (0 + 6) := ⟨e1, e2⟩
    have h3 := X.same.trans h2
    rw [List.append_nil] at h3
    exact h3.mono hc hs
  refine ⟨U, ?_, .threw T.heap.size, hrun, hend, Or.inr ⟨T.heap.size, rfl, cls, ce, locs, hx U hWs.alike f1 (fun q hq => f2 q hq (fun z hz => nomatch hz)), hce, hO.vm, hcl, hWs, hall, hf⟩⟩
  refine st1 _ ?_
  show Steps p.tables e below (T1.setTop { method := m, pc := pc + 3, locals := ls, stack := .ref T.heap.size :: rest, locked := none }) _
  jvm_step X₁.here [X₁.here.top, hexec, d3', Value.category]
  exact hsteps
/-- 'throw new E("text")': new; dup; ldc; invokespecial; athrow -/
theorem vx_throwS {cc : ByteArray} {pc : Nat} (hexec : p.tables.exec = Jvm.exec) (hb : c.code = cc) (hl : l.stackTraces = false) {own cls text : String} {names : List String} {ik is ic mc ms sa : Nat} {A : Nat → Prop}
    (hown : s.vm.findClass own = some m.cls) (hcls : Bundle.fit cls = true) (hnames : ∀ n ∈ names, Bundle.fit n = true)
    (hk : (Cond.classLink own ik cls).before args s = true) (hini : (Cond.initialized cls).before args s = true) (hstr : vk_R own is text sa s) (hat : ∀ w ∈ vx_atS own ic cls names, w.before args s = true)
    (hgood : ∀ w ∈ Cond.classLink own ik cls :: Cond.initialized cls :: vx_atS own ic cls names, vx_ot w = true)
    (hU : vx_Zq Bundle.tN "UNASSIGNED_STACK" Bundle.steD A s s.heap) (hN : vx_Zq Bundle.tN "SUPPRESSED_SENTINEL" Bundle.listD A s s.heap) (hS : va_S A s.heap H locs) (hsize : ls.size = c.maxLocals)
    (d0 : decode cc pc = .ok (.new ik, 3)) (d3 : decode cc (pc + 3) = .ok (.dup, 1)) (d4 : decode cc (pc + 4) = .ok (.ldc is, 2)) (d6 : decode cc (pc + 6) = .ok (.invokespecial ic, 3)) (d9 : decode cc (pc + 9) = .ok (.athrow, 1))
    (hout : ∀ x ∈ c.exceptionTable.toList, covers x (pc + 9) = false)
    (hRframes : names.length + 3 < R.frames) (hRlocals : (rest.map fun v => v.category).sum + (13 * (names.length + 1) + 43) ≤ R.locals) (hRcells : cells + 1 ≤ R.cells) (hRslots : slots + 6 ≤ R.slots) (hlocks : meth.locks = false)
    (hx : ∀ t : State, s.vm.Alike t.vm → H.size ≤ t.heap.size → (∀ q : Nat, q < H.size → t.heap[q]? = H[q]?) → XC cls s t)
    (hf : ∀ z ∈ locs, free z.base) (hc : cells + 1 ≤ mc) (hs : slots + 6 ≤ ms) :
    W p l e R s m args below meth c H locs cells slots (vx_MQ below Qc XC args s mc ms free) (F0 m pc ls rest) := by
  intro T hT X
  have htr : e.platform.stackTraces = false := (show e.platform.stackTraces = l.stackTraces by rw [X.admits.platform]).trans hl
  have Y := vx_rebase X (R' := { frames := R.frames, locals := R.locals, cells := 1, slots := 6 }) (Nat.le_refl _) (Nat.le_refl _) hRcells hRslots
  obtain ⟨s', hA⟩ : ∃ z, z = (T.setVm s.vm).setFrames (.invoking m args :: below) := ⟨_, rfl⟩
  rw [← hA] at Y
  have hvm : s'.vm = s.vm := by rw [hA]; rfl
  have hhp : s'.heap = H := by rw [hA]; exact hT
  have hW0 : s.WarmedH s'.vm := by rw [hvm]; exact State.WarmedH.refl s
  have hat' : ∀ w ∈ vx_atS own ic cls names, w.before args s' = true := fun w hw => vx_ot_at hW0 hvm.symm (hgood w (List.mem_cons_of_mem _ (List.mem_cons_of_mem _ hw))) (hat w hw)
  have hk' : (Cond.classLink own ik cls).before args s' = true := vx_ot_at hW0 hvm.symm (hgood _ List.mem_cons_self) hk
  have hini' : (Cond.initialized cls).before args s' = true := vx_ot_at hW0 hvm.symm (hgood _ (List.mem_cons_of_mem _ List.mem_cons_self)) hini
  have hU' : vx_Zq Bundle.tN "UNASSIGNED_STACK" Bundle.steD A s' s'.heap := by rw [hhp]; exact vx_Zq.moved hW0.alike (hU.kept hS.2.1)
  have hN' : vx_Zq Bundle.tN "SUPPRESSED_SENTINEL" Bundle.listD A s' s'.heap := by rw [hhp]; exact vx_Zq.moved hW0.alike (hN.kept hS.2.1)
  have h : ∀ w ∈ Bundle.ownAtoms own ic cls names, w.before args s' = true := vx_own hat' (vx_isRefq hU'.1) (vx_isRefq hN'.1) hU'.2.word hN'.2.word
  have hown' : s'.vm.findClass own = some m.cls := by rw [hvm]; exact hown
  have hins : (Cond.instantiable cls 6).before args s' = true := h _ (by simp [Bundle.ownAtoms])
  obtain ⟨vm₁, cX, kX, hfX, hkX, -, -, X₁, st1⟩ := Y.newCold hexec (own := own) (C := cls) (index := ik) (n := 6) hown' hk' hins hini'
    (g := F0 m pc ls rest) rfl (by rw [hb]; exact d0) (Nat.le_refl _) (Nat.le_refl _)
  generalize hT1 : (T.setVm vm₁).pushCell { cls := cX, slots := kX.instanceTypes.map defaultValue, vm := .none } = T1 at X₁ st1
  have hcat : (Value.ref T.heap.size).category = 1 := rfl
  have hcellA : T1.heap[T.heap.size]? = some (freshCell cX kX) := by rw [← hT1]; exact State.heap_pushCell_size _ _
  have d3' : decode c.code (pc + 3) = .ok (.dup, 1) := by rw [hb]; exact d3
  have d4' : decode c.code (pc + 4) = .ok (.ldc is, 2) := by rw [hb]; exact d4
  have hstr' : vk_R own is text sa s' := vk_R.warm hW0 hstr
  obtain ⟨U, hsteps, hrun, hend, hW, hsame, ce, hce, hO⟩ := X₁.ctorThrowS hexec htr (own := own) (cls := cls) (names := names) (ic := ic) hown' hcls hnames h (fun x hx => nomatch hx) hfX hkX hcellA (by rw [hhp, hT]; exact Nat.le_refl _) (msg := .ref sa) rfl
    (g := { method := m, pc := pc + 6, locals := ls, stack := .ref sa :: .ref T.heap.size :: .ref T.heap.size :: rest, locked := none }) rfl hsize rfl rfl (rest := rest) rfl
    (by rw [hb]; exact d6) (by rw [hb]; exact d9) hout hRframes (by simp only [List.map_cons, List.sum_cons, hcat]; omega) hlocks
  obtain ⟨f1, f2⟩ := vx_frame hsame
  rw [hhp] at f1 f2
  have hWs : s.WarmedH U.vm := State.WarmedH.trans hW0 hW
  have hcl : s.vm.findClass cls = some ce.cls := by
    have h9 := hO.cls
    rw [hvm] at h9
    exact h9
  have hall : s.sameButNew ({ U with vm := s.vm } : State) locs mc ms := by
    subst hA
    obtain ⟨e1, e2⟩ := hsame
    rw [State.setFrames_setFrames] at e1
    have h2 : (T.setVm s.vm).sameButNew ({ U with vm := s.vm } : State) [] (0 + 1) (0 + 6) := ⟨e1, e2⟩
    have h3 := X.same.trans h2
    rw [List.append_nil] at h3
    exact h3.mono hc hs
  refine ⟨U, ?_, .threw T.heap.size, hrun, hend, Or.inr ⟨T.heap.size, rfl, cls, ce, locs, hx U hWs.alike f1 (fun q hq => f2 q hq (fun z hz => nomatch hz)), hce, hO.vm, hcl, hWs, hall, hf⟩⟩
  refine st1 _ ?_
  show Steps p.tables e below (T1.setTop { method := m, pc := pc + 3, locals := ls, stack := .ref T.heap.size :: rest, locked := none }) _
  jvm_step X₁.here [X₁.here.top, hexec, d3', Value.category]
  exact X₁.ldcString hexec (own := own) (text := text) (index := is) (a := sa) hown' hstr'.1 hstr'.2
    (g := { method := m, pc := pc + 4, locals := ls, stack := .ref T.heap.size :: .ref T.heap.size :: rest, locked := none }) rfl d4' _ hsteps
/-- 'throw new E("text")', the text by a wide index -/
theorem vx_throwSW {cc : ByteArray} {pc : Nat} (hexec : p.tables.exec = Jvm.exec) (hb : c.code = cc) (hl : l.stackTraces = false) {own cls text : String} {names : List String} {ik is ic mc ms sa : Nat} {A : Nat → Prop}
    (hown : s.vm.findClass own = some m.cls) (hcls : Bundle.fit cls = true) (hnames : ∀ n ∈ names, Bundle.fit n = true)
    (hk : (Cond.classLink own ik cls).before args s = true) (hini : (Cond.initialized cls).before args s = true) (hstr : vk_R own is text sa s) (hat : ∀ w ∈ vx_atS own ic cls names, w.before args s = true)
    (hgood : ∀ w ∈ Cond.classLink own ik cls :: Cond.initialized cls :: vx_atS own ic cls names, vx_ot w = true)
    (hU : vx_Zq Bundle.tN "UNASSIGNED_STACK" Bundle.steD A s s.heap) (hN : vx_Zq Bundle.tN "SUPPRESSED_SENTINEL" Bundle.listD A s s.heap) (hS : va_S A s.heap H locs) (hsize : ls.size = c.maxLocals)
    (d0 : decode cc pc = .ok (.new ik, 3)) (d3 : decode cc (pc + 3) = .ok (.dup, 1)) (d4 : decode cc (pc + 4) = .ok (.ldc_w is, 3)) (d7 : decode cc (pc + 7) = .ok (.invokespecial ic, 3)) (d10 : decode cc (pc + 10) = .ok (.athrow, 1))
    (hout : ∀ x ∈ c.exceptionTable.toList, covers x (pc + 10) = false)
    (hRframes : names.length + 3 < R.frames) (hRlocals : (rest.map fun v => v.category).sum + (13 * (names.length + 1) + 43) ≤ R.locals) (hRcells : cells + 1 ≤ R.cells) (hRslots : slots + 6 ≤ R.slots) (hlocks : meth.locks = false)
    (hx : ∀ t : State, s.vm.Alike t.vm → H.size ≤ t.heap.size → (∀ q : Nat, q < H.size → t.heap[q]? = H[q]?) → XC cls s t)
    (hf : ∀ z ∈ locs, free z.base) (hc : cells + 1 ≤ mc) (hs : slots + 6 ≤ ms) :
    W p l e R s m args below meth c H locs cells slots (vx_MQ below Qc XC args s mc ms free) (F0 m pc ls rest) := by
  intro T hT X
  have htr : e.platform.stackTraces = false := (show e.platform.stackTraces = l.stackTraces by rw [X.admits.platform]).trans hl
  have Y := vx_rebase X (R' := { frames := R.frames, locals := R.locals, cells := 1, slots := 6 }) (Nat.le_refl _) (Nat.le_refl _) hRcells hRslots
  obtain ⟨s', hA⟩ : ∃ z, z = (T.setVm s.vm).setFrames (.invoking m args :: below) := ⟨_, rfl⟩
  rw [← hA] at Y
  have hvm : s'.vm = s.vm := by rw [hA]; rfl
  have hhp : s'.heap = H := by rw [hA]; exact hT
  have hW0 : s.WarmedH s'.vm := by rw [hvm]; exact State.WarmedH.refl s
  have hat' : ∀ w ∈ vx_atS own ic cls names, w.before args s' = true := fun w hw => vx_ot_at hW0 hvm.symm (hgood w (List.mem_cons_of_mem _ (List.mem_cons_of_mem _ hw))) (hat w hw)
  have hk' : (Cond.classLink own ik cls).before args s' = true := vx_ot_at hW0 hvm.symm (hgood _ List.mem_cons_self) hk
  have hini' : (Cond.initialized cls).before args s' = true := vx_ot_at hW0 hvm.symm (hgood _ (List.mem_cons_of_mem _ List.mem_cons_self)) hini
  have hU' : vx_Zq Bundle.tN "UNASSIGNED_STACK" Bundle.steD A s' s'.heap := by rw [hhp]; exact vx_Zq.moved hW0.alike (hU.kept hS.2.1)
  have hN' : vx_Zq Bundle.tN "SUPPRESSED_SENTINEL" Bundle.listD A s' s'.heap := by rw [hhp]; exact vx_Zq.moved hW0.alike (hN.kept hS.2.1)
  have h : ∀ w ∈ Bundle.ownAtoms own ic cls names, w.before args s' = true := vx_own hat' (vx_isRefq hU'.1) (vx_isRefq hN'.1) hU'.2.word hN'.2.word
  have hown' : s'.vm.findClass own = some m.cls := by rw [hvm]; exact hown
  have hins : (Cond.instantiable cls 6).before args s' = true := h _ (by simp [Bundle.ownAtoms])
  obtain ⟨vm₁, cX, kX, hfX, hkX, -, -, X₁, st1⟩ := Y.newCold hexec (own := own) (C := cls) (index := ik) (n := 6) hown' hk' hins hini'
    (g := F0 m pc ls rest) rfl (by rw [hb]; exact d0) (Nat.le_refl _) (Nat.le_refl _)
  generalize hT1 : (T.setVm vm₁).pushCell { cls := cX, slots := kX.instanceTypes.map defaultValue, vm := .none } = T1 at X₁ st1
  have hcat : (Value.ref T.heap.size).category = 1 := rfl
  have hcellA : T1.heap[T.heap.size]? = some (freshCell cX kX) := by rw [← hT1]; exact State.heap_pushCell_size _ _
  have d3' : decode c.code (pc + 3) = .ok (.dup, 1) := by rw [hb]; exact d3
  have d4' : decode c.code (pc + 4) = .ok (.ldc_w is, 3) := by rw [hb]; exact d4
  have hstr' : vk_R own is text sa s' := vk_R.warm hW0 hstr
  obtain ⟨U, hsteps, hrun, hend, hW, hsame, ce, hce, hO⟩ := X₁.ctorThrowS hexec htr (own := own) (cls := cls) (names := names) (ic := ic) hown' hcls hnames h (fun x hx => nomatch hx) hfX hkX hcellA (by rw [hhp, hT]; exact Nat.le_refl _) (msg := .ref sa) rfl
    (g := { method := m, pc := pc + 7, locals := ls, stack := .ref sa :: .ref T.heap.size :: .ref T.heap.size :: rest, locked := none }) rfl hsize rfl rfl (rest := rest) rfl
    (by rw [hb]; exact d7) (by rw [hb]; exact d10) hout hRframes (by simp only [List.map_cons, List.sum_cons, hcat]; omega) hlocks
  obtain ⟨f1, f2⟩ := vx_frame hsame
  rw [hhp] at f1 f2
  have hWs : s.WarmedH U.vm := State.WarmedH.trans hW0 hW
  have hcl : s.vm.findClass cls = some ce.cls := by
    have h9 := hO.cls
    rw [hvm] at h9
    exact h9
  have hall : s.sameButNew ({ U with vm := s.vm } : State) locs mc ms := by
    subst hA
    obtain ⟨e1, e2⟩ := hsame
    rw [State.setFrames_setFrames] at e1
    have h2 : (T.setVm s.vm).sameButNew ({ U with vm := s.vm } : State) [] (0 + 1) (0 + 6) := ⟨e1, e2⟩
    have h3 := X.same.trans h2
    rw [List.append_nil] at h3
    exact h3.mono hc hs
  refine ⟨U, ?_, .threw T.heap.size, hrun, hend, Or.inr ⟨T.heap.size, rfl, cls, ce, locs, hx U hWs.alike f1 (fun q hq => f2 q hq (fun z hz => nomatch hz)), hce, hO.vm, hcl, hWs, hall, hf⟩⟩
  refine st1 _ ?_
  show Steps p.tables e below (T1.setTop { method := m, pc := pc + 3, locals := ls, stack := .ref T.heap.size :: rest, locked := none }) _
  jvm_step X₁.here [X₁.here.top, hexec, d3', Value.category]
  exact X₁.ldcStringW hexec (own := own) (text := text) (index := is) (a := sa) hown' hstr'.1 hstr'.2
    (g := { method := m, pc := pc + 4, locals := ls, stack := .ref T.heap.size :: .ref T.heap.size :: rest, locked := none }) rfl d4' _ hsteps
end Ends
section Bodies
variable {l : Launch}
theorem vx_ofW {y : MethodName} {ws ws' : List Cond} {rm : Room} {Pc : Array Value → State → Prop} {Qc : Array Value → State → Outcome → State → Prop} {XC : String → State → State → Prop} {mc ms : Nat} {free : Addr → Prop} {cc : ByteArray} {maxL : Nat} {ret : Option FieldType}
    (hy : plainName y.cls = true) (hw : ws = Cond.code y cc maxL ret :: ws')
    (body : ∀ p e s m args below meth c s₁, BodyLoose p l y (headSpec ws rm) cc maxL ret e s m args below meth c s₁ → c.maxLocals = maxL → (∀ x ∈ c.exceptionTable.toList, False) → Pc args s →
      W p l e (headSpec ws rm).room s m args below meth c s.heap [] 0 0 (vx_MQ below Qc XC args s mc ms free) (entryFrame m args maxL)) : vx_Met l y ws rm Pc Qc XC mc ms free := by
  refine MetFree.of_bodyS (code := cc) (maxLocals := maxL) (ret := ret) hy ?_ ?_
  · intro args s m h hn
    obtain ⟨meth, c, h1, h2, h3, h4, h5, h6, -, -⟩ := Cond.code_spec hn (atoms_spec (ws := ws) h _ (by rw [hw]; exact List.mem_cons_self))
    exact ⟨meth, c, h1, h2, h3, h4, h5, h6⟩
  · intro p e s m args below meth c s₁ B hml hP _
    have hh0 : s₁.heap = s.heap := by rw [B.state]; rfl
    have ht : ∀ x ∈ c.exceptionTable.toList, False := by
      obtain ⟨meth9, c9, h1, h2, -, -, -, -, h7, -⟩ := Cond.code_spec B.named (atoms_spec (ws := ws) B.pre _ (by rw [hw]; exact List.mem_cons_self))
      cases Option.some.inj (h1.symm.trans B.method)
      cases Option.some.inj (h2.symm.trans (Stand.of_body B).code)
      intro x hx
      rw [Array.isEmpty_iff.mp h7] at hx
      cases hx
    obtain ⟨t, a1, o, b1, b2, b3⟩ := body p e s m args below meth c s₁ B hml ht hP s₁ hh0 (Stand.of_body B)
    exact ⟨t, o, a1, b1, b2, b3⟩
/-- the table of a body with handlers -/
theorem vx_table {p : Program} {x y : MethodName} {S : Spec} {cc bytes : ByteArray} {maxL maxL' : Nat} {ret ret' : Option FieldType} {e : Env} {s s₁ : State} {m : MethodId} {args : Array Value} {below : List Frame} {meth : Method} {c : Code} {hh : List (Nat × Nat × Nat × Nat)}
    (B : BodyLoose p l y S cc maxL ret e s m args below meth c s₁) (h : (Cond.codeWith y bytes maxL' ret' hh).before args s = true) : c.exceptionTable.toList = tableOf hh := by
  obtain ⟨m9, meth9, c9, hn9, h1, h2, -, -, h6, -⟩ := Cond.codeWith_spec h
  cases Option.some.inj (hn9.symm.trans B.named)
  cases Option.some.inj (h1.symm.trans B.method)
  cases Option.some.inj (h2.symm.trans (Stand.of_body B).code)
  rw [← h6, table_eq]
end Bodies
end VXA
/-! ===== END ===== -/
/-! ===== BEGIN a static call of a method with an exception table ===== -/
section VXS
variable {p : Program} {l : Launch} {e : Env} {R : Room} {s : State} {m : MethodId} {args : Array Value} {below : List Frame} {meth : Method} {c : Code} {T : State} {H : Heap} {locs : List Loc} {cells slots : Nat}
abbrev vx_CSW (R : Room) (s : State) (args : Array Value) (own : String) (index : Nat) (y : MethodName) (bytes : ByteArray) (maxL : Nat) (ret : Option FieldType) (hh : List (Nat × Nat × Nat × Nat)) (ws : List Cond) (rm : Room) (mc ms n : Nat) : Prop :=
  (rm.cells = mc ∧ rm.slots = ms ∧ rm.frames + 1 ≤ R.frames ∧ 8 + (maxL + 11) + rm.locals ≤ R.locals ∧ (∀ w ∈ ws, ∀ (a' : Array Value) (U : State), s.WarmedH U.vm → w.before a' U = true) ∧ Cond.codeWith y bytes maxL ret hh ∈ ws) ∧
  (Cond.codeWith y bytes maxL ret hh).before args s = true ∧ (Cond.initialized y.cls).before args s = true ∧ (y.cls ≠ "java/lang/invoke/MethodHandle" ∧ y.cls ≠ "java/lang/invoke/VarHandle") ∧
  (∀ sig, parseMethodDescriptor y.desc = some sig → n = sig.parameters.length) ∧ (Cond.methodLink own index y).before args s = true ∧ (Cond.static y).before args s = true
theorem vx_cwSW {own : String} {index maxL mc ms : Nat} {y : MethodName} {bytes : ByteArray} {ret : Option FieldType} {hh : List (Nat × Nat × Nat × Nat)} {Ts ws ws' : List Cond} {rm : Room} (n : Nat) (ht : ∀ w ∈ Ts, w.before args s = true) (hT : GoodIn Ts (va_wsS own index y ws)) (hw : ws = Cond.codeWith y bytes maxL ret hh :: ws') (hrc : rm.cells = mc) (hrs : rm.slots = ms)
    (hd : y.cls ≠ "java/lang/invoke/MethodHandle" ∧ y.cls ≠ "java/lang/invoke/VarHandle" ∧ (parseMethodDescriptor y.desc).map (fun d => d.parameters.length) = some n) (hR : rm.frames + 1 ≤ R.frames ∧ 8 + (maxL + 11) + rm.locals ≤ R.locals) :
    vx_CSW R s args own index y bytes maxL ret hh ws rm mc ms n := by
  have ok : ∀ w ∈ va_wsS own index y ws, w.before args s = true := fun w h => ht w (hT w h).1
  have hG : GoodIn Ts ws := fun w h => hT w (by unfold va_wsS; exact List.mem_append_right _ h)
  have hc : Cond.codeWith y bytes maxL ret hh ∈ ws := by rw [hw]; exact List.mem_cons_self
  refine ⟨⟨hrc, hrs, hR.1, hR.2, pay_in ht hG, hc⟩, ht _ (hG _ hc).1, ok _ (by simp [va_wsS]), ⟨hd.1, hd.2.1⟩, fun sig h => ?_, ok _ (by simp [va_wsS]), ok _ (by simp [va_wsS])⟩
  have h2 := hd.2.2
  rw [h] at h2
  exact (Option.some.inj h2).symm
theorem vx_callSW (X : Stand p l e R s m args below meth c T locs cells slots) (hexec : p.tables.exec = Jvm.exec) {own : String} {index : Nat} {y : MethodName} {bytes : ByteArray} {maxL : Nat} {ret : Option FieldType} {hh : List (Nat × Nat × Nat × Nat)}
    (hown : s.vm.findClass own = some m.cls) (hlink : (Cond.methodLink own index y).before args s = true) (hstat : (Cond.static y).before args s = true) (hinit : (Cond.initialized y.cls).before args s = true)
    (hcode : (Cond.codeWith y bytes maxL ret hh).before args s = true) (hy : y.cls ≠ "java/lang/invoke/MethodHandle" ∧ y.cls ≠ "java/lang/invoke/VarHandle")
    {W9 : Nat} {Pre : Pt → Array Value → Prop} {Post : Pt → Array Value → Option Value → Pt → Prop} (hK : Back l R p e below s args y 3 W9 Pre Post)
    {g : JFrame} (hg : g.method = m) (hsize : g.locals.size = c.maxLocals) {argsL rest : List Value} (hlen : ∀ sig, parseMethodDescriptor y.desc = some sig → argsL.length = sig.parameters.length)
    (hstack : g.stack = argsL.reverse ++ rest) (hW : 2 * g.monitorRoom + (rest.map fun v => v.category).sum ≤ W9) (hdg : decode c.code g.pc = .ok (.invokestatic index, 3))
    (hpre : ∀ vm₁, s.WarmedH vm₁ → Pre ⟨T.setVm vm₁, locs, cells, slots⟩ argsL.toArray) :
    ∃ (v : Option Value) (vm₁ : Vm) (B : Pt), s.WarmedH vm₁ ∧ Stand p l e R s m args below meth c B.U B.locs B.cells B.slots ∧ Post ⟨T.setVm vm₁, locs, cells, slots⟩ argsL.toArray v B ∧
      ∀ target, Steps p.tables e below (B.U.setTop { g with pc := g.pc + 3, stack := v.toList ++ rest }) target → Steps p.tables e below (T.setTop g) target := by
  obtain ⟨mk, methM, cM, hnamed, hmethM, -, -, -, -, -, -, hsigM⟩ := Cond.codeWith_spec hcode
  have hstatic : methM.isStatic = true := Cond.static_spec hnamed hmethM hstat
  obtain ⟨kP, hkP, -⟩ := className_of_methodNamed hnamed
  have hinitP : kP.init = .initialized := Cond.initialized_spec (findClass_of_methodNamed hnamed) hkP hinit
  obtain ⟨vm₁, X₁, hstep₁⟩ := X.invokestatic hexec hown hlink hnamed hmethM hstatic hkP hinitP hy (g := g) hg (argsL := argsL) (rest := rest) (hlen _ hsigM) hstack hdg
  obtain ⟨v, B, X', hpost, hsteps⟩ := hK m meth c ⟨T.setVm vm₁, locs, cells, slots⟩ { g with stack := rest } (.invokestatic index) mk argsL.toArray X₁ hg hsize hdg hW (X₁.named hnamed) (hpre vm₁ X₁.warmed)
  exact ⟨v, vm₁, B, X₁.warmed, X', hpost, fun target h => hstep₁ _ fun acts => by rw [doInvoke_state]; exact hsteps.trans h⟩
theorem vx_runSW {y : MethodName} {bytes cc : ByteArray} {maxL nL mc ms n index : Nat} {ret : Option FieldType} {hh : List (Nat × Nat × Nat × Nat)} {ws : List Cond} {rm : Room} {Pc : Array Value → State → Prop} {Qc : Array Value → State → Outcome → State → Prop} {free : Addr → Prop} {Ts : List Cond} {own : String} {As rest : List Value} {g : JFrame}
    (S : CallFix p m c cc nL s args Ts own) (hM : Met l y ws rm Pc Qc mc ms free) (cw : vx_CSW R s args own index y bytes maxL ret hh ws rm mc ms n) (hp : PreS s H Pc As)
    (hg : g.method = m) (hn : As.length = n) (hsize : g.locals.size = nL) (hstack : g.stack = As.reverse ++ rest) (hW : 2 * g.monitorRoom + (rest.map fun v => v.category).sum ≤ 8) (hdg : decode cc g.pc = .ok (.invokestatic index, 3)) (hf : cells + mc ≤ R.cells ∧ slots + ms ≤ R.slots) :
    va_Run p l e R s m args below meth c H locs cells slots mc ms g rest (Qc As.toArray) (free) := by
  obtain ⟨⟨hrc, hrs, hfr, hlo, hws, hcw⟩, hcode, hini, hy, hlen, hl, hstt⟩ := cw
  have hK : Back l R p e below s args y 3 8 (PreOf R mc ms Pc) (PostOf Qc mc ms free) := va_backW (hh := hh) (bytes := bytes) (maxL := maxL) (ret := ret) hM hp.1 hrc hrs hfr hlo hws hcw (fun a' U hW => word_at hW (Or.inl (by first | rfl | simp [Cond.onTables, Cond.keeps, Cond.steady])) hini)
  obtain ⟨hx, hb, hml, ho, -⟩ := S
  intro T hT X
  obtain ⟨v, vm₁, ⟨U', l2, c2, s2⟩, hW₁, X', ⟨g', mk, t, L, e1, e2, hq, h1, hL, h2, h3⟩, st⟩ := vx_callSW X hx (hh := hh) (bytes := bytes) (maxL := maxL) (ret := ret) ho hl hstt hini hcode hy hK hg (hsize.trans hml.symm) (argsL := As) (rest := rest) (fun sig h => hn.trans (hlen sig h)) hstack hW (by rw [hb]; exact hdg)
    (fun vm₁ hW₁ => ⟨hf.1, hf.2, hp.2 (T.setVm vm₁) hT hW₁⟩)
  dsimp only [Pt.U, Pt.locs, Pt.cells, Pt.slots] at X' e1 e2 h1 h2 h3 st
  subst h1; subst h2; subst h3
  exact ⟨v, (T.setVm vm₁).calling g' mk As.toArray, t, U', L, hT, X', hL, e1, e2, hq, st⟩
/-- not caught here, past rows that name other classes: it goes on to the caller -/
theorem vx_outP {p : Program} {l : Launch} {e : Env} {R : Room} {s : State} {m : MethodId} {args : Array Value} {below : List Frame} {meth : Method} {c : Code} {H : Heap} {locs : List Loc} {cells slots : Nat} {free : Addr → Prop} {ls : Array Slot} {rest : List Value} {Qc : Array Value → State → Outcome → State → Prop} {XC : String → State → State → Prop}
    {pc : Nat} {own E : String} {ce : Cell} {q : Addr} {mc ms : Nat} (hown : s.vm.findClass own = some m.cls) (hlocks : meth.locks = false)
    (hpass : ∀ z ∈ c.exceptionTable.toList, covers z pc = false ∨ (z.catchType ≠ 0 ∧ ∃ nm : String, (Cond.classLink own z.catchType nm).before args s = true ∧ va_Nc E nm s)) (hcell : H[q]? = some ce) (hv : ce.vm = .none) (hcl : s.vm.findClass E = some ce.cls)
    (hx : ∀ t : State, t.heap = H → s.vm.Alike t.vm → XC E s t) (hf : ∀ z ∈ locs, free z.base) (hc : cells ≤ mc) (hs : slots ≤ ms) :
    vx_W p l e R s m args below meth c H locs cells slots (vx_MQ below Qc XC args s mc ms free) (F0 m pc ls rest) q := by
  intro T hT X
  have hpl : e.platform.magicAccessors = ({} : Platform).magicAccessors := by rw [X.admits.platform]
  obtain ⟨vm', hW', X', st⟩ := X.outThrough hlocks q (g := F0 m pc ls rest) rfl rfl rfl (cell := ce) (by rw [hT]; exact hcell) (by rw [hv]; rfl)
    (by obtain ⟨k9, h9, -⟩ := Vm.findClass_spec hcl; exact ⟨k9, h9⟩) (fun z hz => by
      rcases hpass z hz with h | ⟨hz0, nm, hl1, hn1⟩
      · exact Or.inl h
      · obtain ⟨c6, hc6, hcl6⟩ := Cond.classLink_spec hown hl1 e.platform hpl
        obtain ⟨a8, b8, h1, h2, h3⟩ := hn1
        cases Option.some.inj (h1.symm.trans hcl)
        cases Option.some.inj (h2.symm.trans hc6)
        exact Or.inr ⟨hz0, _, hcl6, h3⟩)
  obtain ⟨g₀, hfr⟩ := X'.frames_eq
  have hcell9 : ((T.setVm vm').setFrames (.throwing q :: below)).heap[q]? = some ce := by
    show T.heap[q]? = some ce
    rw [hT]; exact hcell
  have hend : Ended ((T.setVm vm').setFrames (.throwing q :: below)) below (.threw q) := State.frames_setFrames _ (State.cur_lt_of_frames hfr)
  refine ⟨(T.setVm vm').setFrames (.throwing q :: below), ?_, .threw q, X'.here.running, hend, Or.inr ⟨q, rfl, E, ce, locs, hx _ hT (X'.ends _).1.alike, hcell9, hv, hcl, (X'.ends _).1, (X'.ends _).2.mono hc hs, hf⟩⟩
  rw [X.pushThrowing_eq]
  exact st
/-- a thing of a world lies in the heap -/
theorem vx_lt {D : va_G} {cl : List vw_C} {ws : va_W} {H1 : Heap} (h : va_P D cl ws H1) {k : Nat} {q : Nat × va_E} (hk : ws[k]? = some q) : q.1 < H1.size := (h k q hk).lt
end VXS
/-! ===== END ===== -/
/-! ===== BEGIN methods with a table of their own: called by a name, returning or throwing ===== -/
section VXH
/-! vx_backW, vx_callVX, vx_callSX, vx_callVW, vx_runVW, vx_runVX, vx_runSX, vx_ofWH follow the same proofs as their sisters above (Free/Laws.lean, Shelf42/LK1.lean); vx_outP calls Shelf42/NT130.lean (outThrough). -/
section
variable {l : Launch} {R : Room} {p : Program} {e : Env} {below : List Frame} {s : State} {sargs : Array Value} {y : MethodName} {len W9 : Nat}
theorem vx_backW {ws : List Cond} {rm : Room} {Pc : Array Value → State → Prop} {Qc : Array Value → State → Outcome → State → Prop} {XC : String → State → State → Prop} {mc ms : Nat} {free : Addr → Prop} {bytes : ByteArray} {maxL : Nat} {ret : Option FieldType} {hh : List (Nat × Nat × Nat × Nat)}
    (hM : vx_Met l y ws rm Pc Qc XC mc ms free) (hblind : FrameBlind Pc) (hrc : rm.cells = mc) (hrs : rm.slots = ms)
    (hframes : rm.frames + 1 ≤ R.frames) (hlocals : W9 + (maxL + 11) + rm.locals ≤ R.locals)
    (hws : ∀ w ∈ ws, ∀ a' U, s.WarmedH U.vm → w.before a' U = true) (hcode : Cond.codeWith y bytes maxL ret hh ∈ ws) (hinit : ∀ a' U, s.WarmedH U.vm → (Cond.initialized y.cls).before a' U = true) :
    vx_Back l R p e below s sargs y len W9 (PreOf R mc ms Pc) (PostOf Qc mc ms free) (vx_Post XC mc ms free) := by
  intro m meth c A g ig mk a X hg hsize hdg hW hn hp
  have h1 : (headSpec ws rm).pre.before a A.U = true := atoms_intro fun w hw => hws w hw _ _ X.warmed
  have h2 : (Cond.codeWith y bytes maxL ret hh).before a A.U = true := hws _ hcode _ _ X.warmed
  have h3 : (Cond.initialized y.cls).before a A.U = true := hinit _ _ X.warmed
  have h4 : A.cells + (headSpec ws rm).room.cells ≤ R.cells := by rw [show (headSpec ws rm).room.cells = mc from hrc]; exact hp.1
  have h5 : A.slots + (headSpec ws rm).room.slots ≤ R.slots := by rw [show (headSpec ws rm).room.slots = ms from hrs]; exact hp.2.1
  have hPc : Pc a (A.U.calling g mk a) := hblind _ _ _ _ hp.2.2
  obtain ⟨U, Ls, c0, s0⟩ := A
  dsimp only [Pt.U, Pt.locs, Pt.cells, Pt.slots] at h1 h2 h3 h4 h5 X hn hPc ⊢
  obtain ⟨m9, methY, cY, hn9, hmY, hcY, -, hlY, -⟩ := Cond.codeWith_spec h2
  cases Option.some.inj (hn9.symm.trans hn)
  obtain ⟨kY, hkY, -⟩ := className_of_methodNamed hn
  have hinitY : kY.init = .initialized := Cond.initialized_spec (findClass_of_methodNamed hn) hkY h3
  have h : At U g.method c below := by rw [hg]; exact X.here
  have hlocals9 : W9 + (maxL + 11) + (headSpec ws rm).room.locals ≤ R.locals := hlocals
  have happ : (headSpec ws rm).appliesLoose y e.platform (U.calling g mk a) = true :=
    Spec.appliesLoose_calling (g := g) h hdg hn hkY hinitY
      (X.room_calling (g := g) (R' := (headSpec ws rm).room) hsize hmY hcY hframes (by rw [hlY]; omega) h4 h5) h1
  obtain ⟨mid, hmid⟩ := h.above
  have hfr : (U.setTop g).frames = (.java g :: mid) ++ below := by rw [State.frames_setTop' g h.top, hmid]; rfl
  obtain ⟨o, s₂, hsteps, -, hend, hq⟩ := Steps.callFree hM p X.admits X.cas X.clock (acts := []) hfr happ hPc trivial
  have hq' : vx_Q Qc XC mc ms free a (U.calling g mk a) o s₂ := hq
  rw [State.frames_setTop' g h.top] at hend
  obtain ⟨g₀, hg0⟩ := Option.isSome_iff_exists.mp h.top
  obtain ⟨r, hr⟩ := State.topJava?_eq_some.mp hg0
  have hr' : (({ U with heap := s₂.heap, slotsUsed := s₂.slotsUsed } : State).setVm s₂.vm).frames = .java g₀ :: r := hr
  rcases hq' with ⟨hqc, L, hfe, hL⟩ | ⟨q, rfl, E, ce, L, hx, hce, hcv, hcl, hW₂, hsm, hL⟩
  · obtain ⟨⟨v, rfl⟩, hW₂, e2, q2, q3, q4, q5, q6⟩ := id hfe
    have e3 : s₂ = ({ (U.calling g mk a).setFrames s₂.frames with heap := s₂.heap, slotsUsed := s₂.slotsUsed } : State).setVm s₂.vm := by
      have : s₂ = ({ s₂ with vm := (U.calling g mk a).vm } : State).setVm s₂.vm := rfl
      rw [e2] at this
      exact this
    obtain ⟨c₂, i₂, len₂, hc₂, hd₂, hf₂⟩ := hend
    have hW' : U.WarmedH s₂.vm := hW₂
    have hcc : c₂ = c := by
      have h1 : s₂.code? g.method = U.code? g.method := by
        rw [State.code?_eq, State.code?_eq, hW'.alike.method?]
      exact Option.some.inj (hc₂.symm.trans (h1.trans h.code))
    subst hcc
    have hlen : len₂ = len := by rw [hdg] at hd₂; cases hd₂; rfl
    subst hlen
    have hs₂ : s₂ = (({ U with heap := s₂.heap, slotsUsed := s₂.slotsUsed } : State).setVm s₂.vm).setTop { g with pc := g.pc + len₂, stack := v.toList ++ g.stack } := by
      refine e3.trans ?_
      rw [hf₂, State.calling_eq h.top, State.setFrames_setFrames, State.setTop_of_frames _ hr', hr]
      rfl
    have hsame : U.sameButNew ({ U with heap := s₂.heap, slotsUsed := s₂.slotsUsed } : State) L mc ms := by
      refine ⟨?_, q2, q3, q4, q5, q6⟩
      obtain ⟨t, ht, -⟩ := State.frames_cons hr
      show ({ U with heap := s₂.heap, slotsUsed := s₂.slotsUsed } : State) = { U.setFrames U.frames with heap := s₂.heap, slotsUsed := s₂.slotsUsed }
      rw [State.setFrames_self ht]
    subst hg
    refine Or.inl ⟨v, ⟨(({ U with heap := s₂.heap, slotsUsed := s₂.slotsUsed } : State).setVm s₂.vm), Ls ++ L, c0 + mc, s0 + ms⟩,
      ⟨X.admits, X.cas, X.clock, X.frames, X.room, X.hears, X.method, X.code, (X.here.setHeapUsed s₂.heap s₂.slotsUsed).setVm hW'.alike, X.tail, State.WarmedH.trans X.warmed hW', X.limits, X.bytes, X.same.trans (hsame.setVm s.vm)⟩,
      ⟨g, mk, s₂, L, rfl, rfl, hqc, rfl, hL, rfl, rfl⟩, ?_⟩
    show Steps p.tables e below _ ((({ U with heap := s₂.heap, slotsUsed := s₂.slotsUsed } : State).setVm s₂.vm).setTop { g with pc := g.pc + len₂, stack := v.toList ++ g.stack })
    rw [← hs₂]
    exact hsteps
  · obtain ⟨e2, q2, q3, q4, q5, q6⟩ := id hsm
    have e3 : s₂ = ({ (U.calling g mk a).setFrames s₂.frames with heap := s₂.heap, slotsUsed := s₂.slotsUsed } : State).setVm s₂.vm := by
      have : s₂ = ({ s₂ with vm := (U.calling g mk a).vm } : State).setVm s₂.vm := rfl
      rw [e2] at this
      exact this
    have hf₂ : s₂.frames = .throwing q :: .java g :: U.frames.tail := hend
    have hW' : U.WarmedH s₂.vm := hW₂
    have hs₂ : s₂ = ((({ U with heap := s₂.heap, slotsUsed := s₂.slotsUsed } : State).setVm s₂.vm).setTop g).pushFrame (.throwing q) := by
      refine e3.trans ?_
      rw [hf₂, State.calling_eq h.top, State.setFrames_setFrames, State.pushFrame, State.frames_setTop _ hr', State.setTop_of_frames _ hr', State.setFrames_setFrames, hr]
      rfl
    have hsame : U.sameButNew ({ U with heap := s₂.heap, slotsUsed := s₂.slotsUsed } : State) L mc ms := by
      refine ⟨?_, q2, q3, q4, q5, q6⟩
      obtain ⟨t, ht, -⟩ := State.frames_cons hr
      show ({ U with heap := s₂.heap, slotsUsed := s₂.slotsUsed } : State) = { U.setFrames U.frames with heap := s₂.heap, slotsUsed := s₂.slotsUsed }
      rw [State.setFrames_self ht]
    subst hg
    refine Or.inr ⟨q, ⟨(({ U with heap := s₂.heap, slotsUsed := s₂.slotsUsed } : State).setVm s₂.vm), Ls ++ L, c0 + mc, s0 + ms⟩,
      ⟨X.admits, X.cas, X.clock, X.frames, X.room, X.hears, X.method, X.code, (X.here.setHeapUsed s₂.heap s₂.slotsUsed).setVm hW'.alike, X.tail, State.WarmedH.trans X.warmed hW', X.limits, X.bytes, X.same.trans (hsame.setVm s.vm)⟩,
      ⟨g, mk, s₂, L, E, ce, rfl, rfl, hx, hce, hcv, hcl, rfl, hL, rfl, rfl⟩, ?_⟩
    show Steps p.tables e below _ (((({ U with heap := s₂.heap, slotsUsed := s₂.slotsUsed } : State).setVm s₂.vm).setTop g).pushFrame (.throwing q))
    rw [← hs₂]
    exact hsteps
end
variable {p : Program} {l : Launch} {e : Env} {R : Room} {s : State} {m : MethodId} {args : Array Value} {below : List Frame} {meth : Method} {c : Code} {T : State} {H : Heap} {locs : List Loc} {cells slots : Nat}
theorem vx_callVX (X : Stand p l e R s m args below meth c T locs cells slots) (hexec : p.tables.exec = Jvm.exec) {own C : String} {index : Nat} {y : MethodName} {bytes : ByteArray} {maxL : Nat} {ret : Option FieldType} {hh : List (Nat × Nat × Nat × Nat)}
    (hown : s.vm.findClass own = some m.cls) (hlink : (Cond.methodLink own index y).before args s = true) (hinst : (Cond.instanceMethod y).before args s = true) (hsel : (Cond.selects C y y).before args s = true)
    (hcode : (Cond.codeWith y bytes maxL ret hh).before args s = true) (hy : y.cls ≠ "java/lang/invoke/MethodHandle" ∧ y.cls ≠ "java/lang/invoke/VarHandle")
    {W9 : Nat} {Pre : Pt → Array Value → Prop} {Post : Pt → Array Value → Option Value → Pt → Prop} {PostX : Pt → Array Value → Addr → Pt → Prop} (hK : vx_Back l R p e below s args y 3 W9 Pre Post PostX)
    {b : Addr} {cellB : Cell} (hcell : T.heap[b]? = some cellB) (hobj : cellB.vm.isStatics = false) (hcls : s.vm.findClass C = some cellB.cls)
    {g : JFrame} (hg : g.method = m) (hsize : g.locals.size = c.maxLocals) {argsL rest : List Value} (hlen : ∀ sig, parseMethodDescriptor y.desc = some sig → argsL.length = sig.parameters.length)
    (hstack : g.stack = argsL.reverse ++ .ref b :: rest) (hW : 2 * g.monitorRoom + (rest.map fun v => v.category).sum ≤ W9) (hdg : decode c.code g.pc = .ok (.invokevirtual index, 3))
    (hpre : ∀ vm₁, s.WarmedH vm₁ → Pre ⟨T.setVm vm₁, locs, cells, slots⟩ (Value.ref b :: argsL).toArray) :
    (∃ (v : Option Value) (vm₁ : Vm) (B : Pt), s.WarmedH vm₁ ∧ Stand p l e R s m args below meth c B.U B.locs B.cells B.slots ∧ Post ⟨T.setVm vm₁, locs, cells, slots⟩ (Value.ref b :: argsL).toArray v B ∧
      ∀ target, Steps p.tables e below (B.U.setTop { g with pc := g.pc + 3, stack := v.toList ++ rest }) target → Steps p.tables e below (T.setTop g) target) ∨
    (∃ (q : Addr) (vm₁ : Vm) (B : Pt), s.WarmedH vm₁ ∧ Stand p l e R s m args below meth c B.U B.locs B.cells B.slots ∧ PostX ⟨T.setVm vm₁, locs, cells, slots⟩ (Value.ref b :: argsL).toArray q B ∧
      Steps p.tables e below (T.setTop g) ((B.U.setTop { g with stack := rest }).pushFrame (.throwing q))) := by
  obtain ⟨mk, methM, hnamed, hmethM, hstM, habM⟩ := Cond.instanceMethod_spec hinst
  obtain ⟨m8, methM', cM, hn8, hmethM', -, -, -, -, -, -, hsigM⟩ := Cond.codeWith_spec hcode
  cases Option.some.inj (hn8.symm.trans hnamed)
  cases hmethM.symm.trans hmethM'
  obtain ⟨c2, r2, m2, q1, q2, q3, q4, kP, hkP, hkPi⟩ := Cond.selects_spec hsel
  cases hcls.symm.trans q1
  cases (State.methodFound?_of_named hnamed hy).symm.trans q2
  cases hnamed.symm.trans q3
  have hselP : selectMethod e.platform s.vm cellB.cls mk = .method mk := by rw [Launch.admits_selectMethod X.admits]; exact q4
  obtain ⟨vm₁, X₁, hstep₁⟩ := X.invokevirtual hexec hown hlink hnamed hmethM hstM hkP hkPi hy (a := b) (cell := cellB) hcell
    (fun z h => by rw [h] at hobj; cases hobj) hselP hmethM habM hkP hkPi (g := g) hg (argsL := argsL) (rest := rest) (hlen _ hsigM) hstack hdg
  rcases hK m meth c ⟨T.setVm vm₁, locs, cells, slots⟩ { g with stack := rest } (.invokevirtual index) mk (Value.ref b :: argsL).toArray X₁ hg hsize hdg hW (X₁.named hnamed) (hpre vm₁ X₁.warmed) with ⟨v, B, X', hpost, hsteps⟩ | ⟨q, B, X', hpost, hsteps⟩
  · exact Or.inl ⟨v, vm₁, B, X₁.warmed, X', hpost, fun target h => hstep₁ _ fun acts => by rw [doInvoke_state]; exact hsteps.trans h⟩
  · exact Or.inr ⟨q, vm₁, B, X₁.warmed, X', hpost, hstep₁ _ fun acts => by rw [doInvoke_state]; exact hsteps⟩
theorem vx_callSX (X : Stand p l e R s m args below meth c T locs cells slots) (hexec : p.tables.exec = Jvm.exec) {own : String} {index : Nat} {y : MethodName} {bytes : ByteArray} {maxL : Nat} {ret : Option FieldType} {hh : List (Nat × Nat × Nat × Nat)}
    (hown : s.vm.findClass own = some m.cls) (hlink : (Cond.methodLink own index y).before args s = true) (hstat : (Cond.static y).before args s = true) (hinit : (Cond.initialized y.cls).before args s = true)
    (hcode : (Cond.codeWith y bytes maxL ret hh).before args s = true) (hy : y.cls ≠ "java/lang/invoke/MethodHandle" ∧ y.cls ≠ "java/lang/invoke/VarHandle")
    {W9 : Nat} {Pre : Pt → Array Value → Prop} {Post : Pt → Array Value → Option Value → Pt → Prop} {PostX : Pt → Array Value → Addr → Pt → Prop} (hK : vx_Back l R p e below s args y 3 W9 Pre Post PostX)
    {g : JFrame} (hg : g.method = m) (hsize : g.locals.size = c.maxLocals) {argsL rest : List Value} (hlen : ∀ sig, parseMethodDescriptor y.desc = some sig → argsL.length = sig.parameters.length)
    (hstack : g.stack = argsL.reverse ++ rest) (hW : 2 * g.monitorRoom + (rest.map fun v => v.category).sum ≤ W9) (hdg : decode c.code g.pc = .ok (.invokestatic index, 3))
    (hpre : ∀ vm₁, s.WarmedH vm₁ → Pre ⟨T.setVm vm₁, locs, cells, slots⟩ argsL.toArray) :
    (∃ (v : Option Value) (vm₁ : Vm) (B : Pt), s.WarmedH vm₁ ∧ Stand p l e R s m args below meth c B.U B.locs B.cells B.slots ∧ Post ⟨T.setVm vm₁, locs, cells, slots⟩ argsL.toArray v B ∧
      ∀ target, Steps p.tables e below (B.U.setTop { g with pc := g.pc + 3, stack := v.toList ++ rest }) target → Steps p.tables e below (T.setTop g) target) ∨
    (∃ (q : Addr) (vm₁ : Vm) (B : Pt), s.WarmedH vm₁ ∧ Stand p l e R s m args below meth c B.U B.locs B.cells B.slots ∧ PostX ⟨T.setVm vm₁, locs, cells, slots⟩ argsL.toArray q B ∧
      Steps p.tables e below (T.setTop g) ((B.U.setTop { g with stack := rest }).pushFrame (.throwing q))) := by
  obtain ⟨mk, methM, cM, hnamed, hmethM, -, -, -, -, -, -, hsigM⟩ := Cond.codeWith_spec hcode
  have hstatic : methM.isStatic = true := Cond.static_spec hnamed hmethM hstat
  obtain ⟨kP, hkP, -⟩ := className_of_methodNamed hnamed
  have hinitP : kP.init = .initialized := Cond.initialized_spec (findClass_of_methodNamed hnamed) hkP hinit
  obtain ⟨vm₁, X₁, hstep₁⟩ := X.invokestatic hexec hown hlink hnamed hmethM hstatic hkP hinitP hy (g := g) hg (argsL := argsL) (rest := rest) (hlen _ hsigM) hstack hdg
  rcases hK m meth c ⟨T.setVm vm₁, locs, cells, slots⟩ { g with stack := rest } (.invokestatic index) mk argsL.toArray X₁ hg hsize hdg hW (X₁.named hnamed) (hpre vm₁ X₁.warmed) with ⟨v, B, X', hpost, hsteps⟩ | ⟨q, B, X', hpost, hsteps⟩
  · exact Or.inl ⟨v, vm₁, B, X₁.warmed, X', hpost, fun target h => hstep₁ _ fun acts => by rw [doInvoke_state]; exact hsteps.trans h⟩
  · exact Or.inr ⟨q, vm₁, B, X₁.warmed, X', hpost, hstep₁ _ fun acts => by rw [doInvoke_state]; exact hsteps⟩
theorem vx_callVW (X : Stand p l e R s m args below meth c T locs cells slots) (hexec : p.tables.exec = Jvm.exec) {own C : String} {index : Nat} {y : MethodName} {bytes : ByteArray} {maxL : Nat} {ret : Option FieldType} {hh : List (Nat × Nat × Nat × Nat)}
    (hown : s.vm.findClass own = some m.cls) (hlink : (Cond.methodLink own index y).before args s = true) (hinst : (Cond.instanceMethod y).before args s = true) (hsel : (Cond.selects C y y).before args s = true)
    (hcode : (Cond.codeWith y bytes maxL ret hh).before args s = true) (hy : y.cls ≠ "java/lang/invoke/MethodHandle" ∧ y.cls ≠ "java/lang/invoke/VarHandle")
    {W9 : Nat} {Pre : Pt → Array Value → Prop} {Post : Pt → Array Value → Option Value → Pt → Prop} (hK : Back l R p e below s args y 3 W9 Pre Post)
    {b : Addr} {cellB : Cell} (hcell : T.heap[b]? = some cellB) (hobj : cellB.vm.isStatics = false) (hcls : s.vm.findClass C = some cellB.cls)
    {g : JFrame} (hg : g.method = m) (hsize : g.locals.size = c.maxLocals) {argsL rest : List Value} (hlen : ∀ sig, parseMethodDescriptor y.desc = some sig → argsL.length = sig.parameters.length)
    (hstack : g.stack = argsL.reverse ++ .ref b :: rest) (hW : 2 * g.monitorRoom + (rest.map fun v => v.category).sum ≤ W9) (hdg : decode c.code g.pc = .ok (.invokevirtual index, 3))
    (hpre : ∀ vm₁, s.WarmedH vm₁ → Pre ⟨T.setVm vm₁, locs, cells, slots⟩ (Value.ref b :: argsL).toArray) :
    ∃ (v : Option Value) (vm₁ : Vm) (B : Pt), s.WarmedH vm₁ ∧ Stand p l e R s m args below meth c B.U B.locs B.cells B.slots ∧ Post ⟨T.setVm vm₁, locs, cells, slots⟩ (Value.ref b :: argsL).toArray v B ∧
      ∀ target, Steps p.tables e below (B.U.setTop { g with pc := g.pc + 3, stack := v.toList ++ rest }) target → Steps p.tables e below (T.setTop g) target := by
  obtain ⟨mk, methM, hnamed, hmethM, hstM, habM⟩ := Cond.instanceMethod_spec hinst
  obtain ⟨m8, methM', cM, hn8, hmethM', -, -, -, -, -, -, hsigM⟩ := Cond.codeWith_spec hcode
  cases Option.some.inj (hn8.symm.trans hnamed)
  cases hmethM.symm.trans hmethM'
  obtain ⟨c2, r2, m2, q1, q2, q3, q4, kP, hkP, hkPi⟩ := Cond.selects_spec hsel
  cases hcls.symm.trans q1
  cases (State.methodFound?_of_named hnamed hy).symm.trans q2
  cases hnamed.symm.trans q3
  have hselP : selectMethod e.platform s.vm cellB.cls mk = .method mk := by rw [Launch.admits_selectMethod X.admits]; exact q4
  obtain ⟨vm₁, X₁, hstep₁⟩ := X.invokevirtual hexec hown hlink hnamed hmethM hstM hkP hkPi hy (a := b) (cell := cellB) hcell
    (fun z h => by rw [h] at hobj; cases hobj) hselP hmethM habM hkP hkPi (g := g) hg (argsL := argsL) (rest := rest) (hlen _ hsigM) hstack hdg
  obtain ⟨v, B, X', hpost, hsteps⟩ := hK m meth c ⟨T.setVm vm₁, locs, cells, slots⟩ { g with stack := rest } (.invokevirtual index) mk (Value.ref b :: argsL).toArray X₁ hg hsize hdg hW (X₁.named hnamed) (hpre vm₁ X₁.warmed)
  exact ⟨v, vm₁, B, X₁.warmed, X', hpost, fun target h => hstep₁ _ fun acts => by rw [doInvoke_state]; exact hsteps.trans h⟩
abbrev vx_CVW (R : Room) (s : State) (args : Array Value) (own C : String) (index : Nat) (y : MethodName) (bytes : ByteArray) (maxL : Nat) (ret : Option FieldType) (hh : List (Nat × Nat × Nat × Nat)) (ws : List Cond) (rm : Room) (mc ms n : Nat) : Prop :=
  (rm.cells = mc ∧ rm.slots = ms ∧ rm.frames + 1 ≤ R.frames ∧ 8 + (maxL + 11) + rm.locals ≤ R.locals ∧ (∀ w ∈ ws, ∀ (a' : Array Value) (U : State), s.WarmedH U.vm → w.before a' U = true) ∧ Cond.codeWith y bytes maxL ret hh ∈ ws) ∧
  (Cond.codeWith y bytes maxL ret hh).before args s = true ∧ (Cond.initialized y.cls).before args s = true ∧ (y.cls ≠ "java/lang/invoke/MethodHandle" ∧ y.cls ≠ "java/lang/invoke/VarHandle") ∧
  (∀ sig, parseMethodDescriptor y.desc = some sig → n = sig.parameters.length) ∧ (Cond.methodLink own index y).before args s = true ∧ (Cond.instanceMethod y).before args s = true ∧ (Cond.selects C y y).before args s = true
theorem vx_cwVW {own C : String} {index maxL mc ms : Nat} {y : MethodName} {bytes : ByteArray} {ret : Option FieldType} {hh : List (Nat × Nat × Nat × Nat)} {Ts ws ws' : List Cond} {rm : Room} (n : Nat) (ht : ∀ w ∈ Ts, w.before args s = true) (hT : GoodIn Ts (wsV own index C y ws)) (hw : ws = Cond.codeWith y bytes maxL ret hh :: ws') (hrc : rm.cells = mc) (hrs : rm.slots = ms)
    (hd : y.cls = C ∧ y.cls ≠ "java/lang/invoke/MethodHandle" ∧ y.cls ≠ "java/lang/invoke/VarHandle" ∧ (parseMethodDescriptor y.desc).map (fun d => d.parameters.length) = some n) (hR : rm.frames + 1 ≤ R.frames ∧ 8 + (maxL + 11) + rm.locals ≤ R.locals) :
    vx_CVW R s args own C index y bytes maxL ret hh ws rm mc ms n := by
  obtain ⟨hC, hd⟩ := hd
  subst hC
  have ok : ∀ w ∈ wsV own index y.cls y ws, w.before args s = true := fun w h => ht w (hT w h).1
  have hG : GoodIn Ts ws := fun w h => hT w (by unfold wsV; exact List.mem_append_right _ h)
  have hc : Cond.codeWith y bytes maxL ret hh ∈ ws := by rw [hw]; exact List.mem_cons_self
  refine ⟨⟨hrc, hrs, hR.1, hR.2, pay_in ht hG, hc⟩, ht _ (hG _ hc).1, ok _ (by simp [wsV]), ⟨hd.1, hd.2.1⟩, fun sig h => ?_, ok _ (by simp [wsV]), ok _ (by simp [wsV]), ok _ (by simp [wsV])⟩
  have h2 := hd.2.2
  rw [h] at h2
  exact (Option.some.inj h2).symm
theorem vx_runVW {y : MethodName} {bytes cc : ByteArray} {maxL nL mc ms n index : Nat} {ret : Option FieldType} {hh : List (Nat × Nat × Nat × Nat)} {ws : List Cond} {rm : Room} {Pc : Array Value → State → Prop} {Qc : Array Value → State → Outcome → State → Prop} {free : Addr → Prop} {Ts : List Cond} {own C : String} {b : Addr} {As rest : List Value} {g : JFrame}
    (S : CallFix p m c cc nL s args Ts own) (hM : Met l y ws rm Pc Qc mc ms free) (cw : vx_CVW R s args own C index y bytes maxL ret hh ws rm mc ms n) (hp : PreV s H C b Pc As)
    (hg : g.method = m) (hn : As.length = n) (hsize : g.locals.size = nL) (hstack : g.stack = As.reverse ++ .ref b :: rest) (hW : 2 * g.monitorRoom + (rest.map fun v => v.category).sum ≤ 8) (hdg : decode cc g.pc = .ok (.invokevirtual index, 3)) (hf : cells + mc ≤ R.cells ∧ slots + ms ≤ R.slots) :
    va_Run p l e R s m args below meth c H locs cells slots mc ms g rest (Qc (Value.ref b :: As).toArray) free := by
  obtain ⟨⟨hrc, hrs, hfr, hlo, hws, hcw⟩, hcode, hini, hy, hlen, hl, hin, hse⟩ := cw
  have hK : Back l R p e below s args y 3 8 (PreOf R mc ms Pc) (PostOf Qc mc ms free) := va_backW (hh := hh) (bytes := bytes) (maxL := maxL) (ret := ret) hM hp.1 hrc hrs hfr hlo hws hcw (fun a' U hW => word_at hW (Or.inl (by first | rfl | simp [Cond.onTables, Cond.keeps, Cond.steady])) hini)
  obtain ⟨hx, hb, hml, ho, -⟩ := S
  obtain ⟨-, ⟨cellB, hcB, hoB, hclB⟩, hPc⟩ := hp
  intro T hT X
  obtain ⟨v, vm₁, ⟨U', l2, c2, s2⟩, hW₁, X', ⟨g', mk, t, L, e1, e2, hq, h1, hL, h2, h3⟩, st⟩ := vx_callVW X hx (C := C) (hh := hh) (bytes := bytes) (maxL := maxL) (ret := ret) ho hl hin hse hcode hy hK (by rw [hT]; exact hcB) hoB hclB hg (hsize.trans hml.symm) (argsL := As) (rest := rest) (fun sig h => hn.trans (hlen sig h)) hstack hW (by rw [hb]; exact hdg)
    (fun vm₁ hW₁ => ⟨hf.1, hf.2, hPc (T.setVm vm₁) hT hW₁⟩)
  dsimp only [Pt.U, Pt.locs, Pt.cells, Pt.slots] at X' e1 e2 h1 h2 h3 st
  subst h1; subst h2; subst h3
  exact ⟨v, (T.setVm vm₁).calling g' mk (Value.ref b :: As).toArray, t, U', L, hT, X', hL, e1, e2, hq, st⟩
section
variable {y : MethodName} {bytes cc : ByteArray} {maxL nL mc ms n index : Nat} {ret : Option FieldType} {ws : List Cond} {rm : Room} {Pc : Array Value → State → Prop} {Qc : Array Value → State → Outcome → State → Prop} {XC : String → State → State → Prop} {free : Addr → Prop} {Ts : List Cond} {own C : String} {b : Addr} {As rest : List Value} {g : JFrame}
theorem vx_runVX {hh : List (Nat × Nat × Nat × Nat)} (S : CallFix p m c cc nL s args Ts own) (hM : vx_Met l y ws rm Pc Qc XC mc ms free) (cw : vx_CVW R s args own C index y bytes maxL ret hh ws rm mc ms n) (hp : PreV s H C b Pc As)
    (hg : g.method = m) (hn : As.length = n) (hsize : g.locals.size = nL) (hstack : g.stack = As.reverse ++ .ref b :: rest) (hW : 2 * g.monitorRoom + (rest.map fun v => v.category).sum ≤ 8) (hdg : decode cc g.pc = .ok (.invokevirtual index, 3)) (hf : cells + mc ≤ R.cells ∧ slots + ms ≤ R.slots) :
    vx_Run p l e R s m args below meth c H locs cells slots mc ms g rest (Qc (Value.ref b :: As).toArray) XC free := by
  obtain ⟨⟨hrc, hrs, hfr, hlo, hws, hcw⟩, hcode, hini, hy, hlen, hl, hin, hse⟩ := cw
  have hK : vx_Back l R p e below s args y 3 8 (PreOf R mc ms Pc) (PostOf Qc mc ms free) (vx_Post XC mc ms free) := vx_backW (hh := hh) (bytes := bytes) (maxL := maxL) (ret := ret) hM hp.1 hrc hrs hfr hlo hws hcw (fun a' U hW => word_at hW (Or.inl (by first | rfl | simp [Cond.onTables, Cond.keeps, Cond.steady])) hini)
  obtain ⟨hx, hb, hml, ho, -⟩ := S
  obtain ⟨-, ⟨cellB, hcB, hoB, hclB⟩, hPc⟩ := hp
  intro T hT X
  rcases vx_callVX X hx (C := C) (hh := hh) (bytes := bytes) (maxL := maxL) (ret := ret) ho hl hin hse hcode hy hK (by rw [hT]; exact hcB) hoB hclB hg (hsize.trans hml.symm) (argsL := As) (rest := rest) (fun sig h => hn.trans (hlen sig h)) hstack hW (by rw [hb]; exact hdg)
    (fun vm₁ hW₁ => ⟨hf.1, hf.2, hPc (T.setVm vm₁) hT hW₁⟩) with ⟨v, vm₁, ⟨U', l2, c2, s2⟩, hW₁, X', ⟨g', mk, t, L, e1, e2, hq, h1, hL, h2, h3⟩, st⟩ | ⟨q, vm₁, ⟨U', l2, c2, s2⟩, hW₁, X', ⟨g', mk, t, L, E, ce, e1, e2, hq, hce, hcv, hcl, h1, hL, h2, h3⟩, st⟩
  · dsimp only [Pt.U, Pt.locs, Pt.cells, Pt.slots] at X' e1 e2 h1 h2 h3 st
    subst h1; subst h2; subst h3
    exact Or.inl ⟨v, (T.setVm vm₁).calling g' mk (Value.ref b :: As).toArray, t, U', L, hT, X', hL, e1, e2, hq, st⟩
  · dsimp only [Pt.U, Pt.locs, Pt.cells, Pt.slots] at X' e1 e2 h1 h2 h3 st hcl
    subst h1; subst h2; subst h3
    exact Or.inr ⟨q, (T.setVm vm₁).calling g' mk (Value.ref b :: As).toArray, t, U', L, E, ce, hT, X', hL, e1, e2, hq, hce, hcv, vx_cls hW₁ hcl, st⟩
theorem vx_runSX {hh : List (Nat × Nat × Nat × Nat)} (S : CallFix p m c cc nL s args Ts own) (hM : vx_Met l y ws rm Pc Qc XC mc ms free) (cw : vx_CSW R s args own index y bytes maxL ret hh ws rm mc ms n) (hp : PreS s H Pc As)
    (hg : g.method = m) (hn : As.length = n) (hsize : g.locals.size = nL) (hstack : g.stack = As.reverse ++ rest) (hW : 2 * g.monitorRoom + (rest.map fun v => v.category).sum ≤ 8) (hdg : decode cc g.pc = .ok (.invokestatic index, 3)) (hf : cells + mc ≤ R.cells ∧ slots + ms ≤ R.slots) :
    vx_Run p l e R s m args below meth c H locs cells slots mc ms g rest (Qc As.toArray) XC free := by
  obtain ⟨⟨hrc, hrs, hfr, hlo, hws, hcw⟩, hcode, hini, hy, hlen, hl, hstt⟩ := cw
  have hK : vx_Back l R p e below s args y 3 8 (PreOf R mc ms Pc) (PostOf Qc mc ms free) (vx_Post XC mc ms free) := vx_backW (hh := hh) (bytes := bytes) (maxL := maxL) (ret := ret) hM hp.1 hrc hrs hfr hlo hws hcw (fun a' U hW => word_at hW (Or.inl (by first | rfl | simp [Cond.onTables, Cond.keeps, Cond.steady])) hini)
  obtain ⟨hx, hb, hml, ho, -⟩ := S
  intro T hT X
  rcases vx_callSX X hx (hh := hh) (bytes := bytes) (maxL := maxL) (ret := ret) ho hl hstt hini hcode hy hK hg (hsize.trans hml.symm) (argsL := As) (rest := rest) (fun sig h => hn.trans (hlen sig h)) hstack hW (by rw [hb]; exact hdg)
    (fun vm₁ hW₁ => ⟨hf.1, hf.2, hp.2 (T.setVm vm₁) hT hW₁⟩) with ⟨v, vm₁, ⟨U', l2, c2, s2⟩, hW₁, X', ⟨g', mk, t, L, e1, e2, hq, h1, hL, h2, h3⟩, st⟩ | ⟨q, vm₁, ⟨U', l2, c2, s2⟩, hW₁, X', ⟨g', mk, t, L, E, ce, e1, e2, hq, hce, hcv, hcl, h1, hL, h2, h3⟩, st⟩
  · dsimp only [Pt.U, Pt.locs, Pt.cells, Pt.slots] at X' e1 e2 h1 h2 h3 st
    subst h1; subst h2; subst h3
    exact Or.inl ⟨v, (T.setVm vm₁).calling g' mk As.toArray, t, U', L, hT, X', hL, e1, e2, hq, st⟩
  · dsimp only [Pt.U, Pt.locs, Pt.cells, Pt.slots] at X' e1 e2 h1 h2 h3 st hcl
    subst h1; subst h2; subst h3
    exact Or.inr ⟨q, (T.setVm vm₁).calling g' mk As.toArray, t, U', L, E, ce, hT, X', hL, e1, e2, hq, hce, hcv, vx_cls hW₁ hcl, st⟩
end
end VXH
theorem vx_ofWH {l : Launch} {y : MethodName} {ws ws' : List Cond} {rm : Room} {Pc : Array Value → State → Prop} {Qc : Array Value → State → Outcome → State → Prop} {XC : String → State → State → Prop} {mc ms : Nat} {free : Addr → Prop} {cc : ByteArray} {maxL : Nat} {ret : Option FieldType} {hh : List (Nat × Nat × Nat × Nat)}
    (hy : plainName y.cls = true) (hw : ws = Cond.codeWith y cc maxL ret hh :: ws')
    (body : ∀ p e s m args below meth c s₁, BodyLoose p l y (headSpec ws rm) cc maxL ret e s m args below meth c s₁ → c.maxLocals = maxL → Pc args s →
      W p l e (headSpec ws rm).room s m args below meth c s.heap [] 0 0 (vx_MQ below Qc XC args s mc ms free) (entryFrame m args maxL)) : vx_Met l y ws rm Pc Qc XC mc ms free := by
  refine MetFree.of_bodyS (code := cc) (maxLocals := maxL) (ret := ret) hy ?_ ?_
  · intro args s m h hn
    obtain ⟨m9, meth, c, hn9, h1, h2, h3, h4, -, h5, h6, -⟩ := Cond.codeWith_spec (atoms_spec (ws := ws) h _ (by rw [hw]; exact List.mem_cons_self))
    cases hn.symm.trans hn9
    exact ⟨meth, c, h1, h2, h3, h4, h5, h6⟩
  · intro p e s m args below meth c s₁ B hml hP _
    have hh0 : s₁.heap = s.heap := by rw [B.state]; rfl
    obtain ⟨t, a1, o, b1, b2, b3⟩ := body p e s m args below meth c s₁ B hml hP s₁ hh0 (Stand.of_body B)
    exact ⟨t, o, a1, b1, b2, b3⟩
/-! ===== END ===== -/
end
section
/-! ===== BEGIN printed: names, fields, word lists, decode rows ===== -/
def RX0 : String := "WitchTrial$Book"
def TX0 : u_T := fun k => match k with
  | 0 => ("WitchTrial$Book", "pages", "[I", true)
  | _ => ("WitchTrial$Book", "truth", "I", false)
def tyX0 : Nat → FieldType := fun k => match k with
  | 0 => .array .int
  | _ => .int
abbrev wsX00 : List Cond := u_ws RX0 TX0 2
theorem nmX0 : ∀ a, a < 2 → ∀ b, b < 2 → a ≠ b → (TX0 a).2.1 ≠ (TX0 b).2.1 := by decide +kernel
theorem tyX0_ok : ∀ k, k < 2 → parseFieldDescriptor (TX0 k).2.2.1 = some (tyX0 k) := by decide +kernel
abbrev cX0_init : ByteArray := prog_2_method_1_code
def yX0_init : MethodName := ⟨RX0, "<init>", "()V"⟩
abbrev cX0_open : ByteArray := prog_2_method_2_code
def yX0_open : MethodName := ⟨RX0, "open", "(II)V"⟩
abbrev cX0_addWorlds : ByteArray := prog_2_method_3_code
def yX0_addWorlds : MethodName := ⟨RX0, "addWorlds", "(III)I"⟩
abbrev cX0_agreesWithClaim : ByteArray := prog_2_method_4_code
def yX0_agreesWithClaim : MethodName := ⟨RX0, "agreesWithClaim", "(IIIZ)Z"⟩
abbrev cX0_allowsClaim : ByteArray := prog_2_method_5_code
def yX0_allowsClaim : MethodName := ⟨RX0, "allowsClaim", "(IIZ)Z"⟩
abbrev cX0_keepClaim : ByteArray := prog_2_method_6_code
def yX0_keepClaim : MethodName := ⟨RX0, "keepClaim", "(IIZ)V"⟩
abbrev cX0_agrees : ByteArray := prog_2_method_7_code
def yX0_agrees : MethodName := ⟨RX0, "agrees", "(II)Z"⟩
abbrev cX0_count : ByteArray := prog_2_method_8_code
def yX0_count : MethodName := ⟨RX0, "count", "(I)I"⟩
abbrev cX0_countWithRole : ByteArray := prog_2_method_9_code
def yX0_countWithRole : MethodName := ⟨RX0, "countWithRole", "(III)I"⟩
abbrev cX0_witchesInAll : ByteArray := prog_2_method_10_code
def yX0_witchesInAll : MethodName := ⟨RX0, "witchesInAll", "(I)I"⟩
abbrev cX0_witchesInAny : ByteArray := prog_2_method_11_code
def yX0_witchesInAny : MethodName := ⟨RX0, "witchesInAny", "(I)I"⟩
abbrev cX0_countWitchSets : ByteArray := prog_2_method_12_code
def yX0_countWitchSets : MethodName := ⟨RX0, "countWitchSets", "(I)I"⟩
abbrev cX0_contains : ByteArray := prog_2_method_13_code
def yX0_contains : MethodName := ⟨RX0, "contains", "(II)Z"⟩
def RX1 : String := "WitchTrial"
def TX1 : u_T := fun k => match k with
  | 0 => ("WitchTrial", "book", "LWitchTrial$Book;", true)
  | 1 => ("WitchTrial", "voteOf", "[I", true)
  | 2 => ("WitchTrial", "phase", "I", false)
  | 3 => ("WitchTrial", "dayNumber", "I", false)
  | 4 => ("WitchTrial", "playerCount", "I", false)
  | 5 => ("WitchTrial", "witchSet", "I", false)
  | 6 => ("WitchTrial", "seerPlayer", "I", false)
  | 7 => ("WitchTrial", "guardPlayer", "I", false)
  | 8 => ("WitchTrial", "aliveSet", "I", false)
  | 9 => ("WitchTrial", "lookedAtSet", "I", false)
  | 10 => ("WitchTrial", "protectChoice", "I", false)
  | 11 => ("WitchTrial", "attackChoice", "I", false)
  | 12 => ("WitchTrial", "lookChoice", "I", false)
  | _ => ("WitchTrial", "protectedLastNight", "I", false)
def tyX1 : Nat → FieldType := fun k => match k with
  | 0 => .object "WitchTrial$Book"
  | 1 => .array .int
  | 2 => .int
  | 3 => .int
  | 4 => .int
  | 5 => .int
  | 6 => .int
  | 7 => .int
  | 8 => .int
  | 9 => .int
  | 10 => .int
  | 11 => .int
  | 12 => .int
  | _ => .int
abbrev wsX10 : List Cond := u_ws RX1 TX1 14
theorem nmX1 : ∀ a, a < 14 → ∀ b, b < 14 → a ≠ b → (TX1 a).2.1 ≠ (TX1 b).2.1 := by decide +kernel
theorem tyX1_ok : ∀ k, k < 14 → parseFieldDescriptor (TX1 k).2.2.1 = some (tyX1 k) := by decide +kernel
abbrev cX1_init : ByteArray := prog_1_method_1_code
def yX1_init : MethodName := ⟨RX1, "<init>", "()V"⟩
abbrev cX1_start : ByteArray := prog_1_method_2_code
def yX1_start : MethodName := ⟨RX1, "start", "(IIII)I"⟩
abbrev cX1_phase : ByteArray := prog_1_method_3_code
def yX1_phase : MethodName := ⟨RX1, "phase", "()I"⟩
abbrev cX1_claim : ByteArray := prog_1_method_4_code
def yX1_claim : MethodName := ⟨RX1, "claim", "(III)I"⟩
abbrev cX1_claimAmong : ByteArray := prog_1_method_5_code
def yX1_claimAmong : MethodName := ⟨RX1, "claimAmong", "(II)I"⟩
abbrev cX1_vote : ByteArray := prog_1_method_6_code
def yX1_vote : MethodName := ⟨RX1, "vote", "(II)I"⟩
abbrev cX1_closeVote : ByteArray := prog_1_method_7_code
def yX1_closeVote : MethodName := ⟨RX1, "closeVote", "()I"⟩
abbrev cX1_protect : ByteArray := prog_1_method_8_code
def yX1_protect : MethodName := ⟨RX1, "protect", "(I)I"⟩
abbrev cX1_attack : ByteArray := prog_1_method_9_code
def yX1_attack : MethodName := ⟨RX1, "attack", "(I)I"⟩
abbrev cX1_look : ByteArray := prog_1_method_10_code
def yX1_look : MethodName := ⟨RX1, "look", "(I)I"⟩
abbrev cX1_endNight : ByteArray := prog_1_method_11_code
def yX1_endNight : MethodName := ⟨RX1, "endNight", "()I"⟩
abbrev cX1_day : ByteArray := prog_1_method_12_code
def yX1_day : MethodName := ⟨RX1, "day", "()I"⟩
abbrev cX1_alive : ByteArray := prog_1_method_13_code
def yX1_alive : MethodName := ⟨RX1, "alive", "()I"⟩
abbrev cX1_votesFor : ByteArray := prog_1_method_14_code
def yX1_votesFor : MethodName := ⟨RX1, "votesFor", "(I)I"⟩
abbrev cX1_lookedAt : ByteArray := prog_1_method_15_code
def yX1_lookedAt : MethodName := ⟨RX1, "lookedAt", "()I"⟩
abbrev cX1_worlds : ByteArray := prog_1_method_16_code
def yX1_worlds : MethodName := ⟨RX1, "worlds", "(I)I"⟩
abbrev cX1_worldsWith : ByteArray := prog_1_method_17_code
def yX1_worldsWith : MethodName := ⟨RX1, "worldsWith", "(III)I"⟩
abbrev cX1_sureWitches : ByteArray := prog_1_method_18_code
def yX1_sureWitches : MethodName := ⟨RX1, "sureWitches", "(I)I"⟩
abbrev cX1_sureHonest : ByteArray := prog_1_method_19_code
def yX1_sureHonest : MethodName := ⟨RX1, "sureHonest", "(I)I"⟩
abbrev cX1_witchSets : ByteArray := prog_1_method_20_code
def yX1_witchSets : MethodName := ⟨RX1, "witchSets", "(I)I"⟩
abbrev cX1_suspect : ByteArray := prog_1_method_21_code
def yX1_suspect : MethodName := ⟨RX1, "suspect", "(I)I"⟩
abbrev cX1_bestLook : ByteArray := prog_1_method_22_code
def yX1_bestLook : MethodName := ⟨RX1, "bestLook", "()I"⟩
abbrev cX1_isPossible : ByteArray := prog_1_method_23_code
def yX1_isPossible : MethodName := ⟨RX1, "isPossible", "(IIII)Z"⟩
abbrev cX1_requireGame : ByteArray := prog_1_method_24_code
def yX1_requireGame : MethodName := ⟨RX1, "requireGame", "()V"⟩
abbrev cX1_requirePhase : ByteArray := prog_1_method_25_code
def yX1_requirePhase : MethodName := ⟨RX1, "requirePhase", "(I)V"⟩
abbrev cX1_requireToLive : ByteArray := prog_1_method_26_code
def yX1_requireToLive : MethodName := ⟨RX1, "requireToLive", "(I)V"⟩
abbrev cX1_requirePlayer : ByteArray := prog_1_method_27_code
def yX1_requirePlayer : MethodName := ⟨RX1, "requirePlayer", "(I)V"⟩
abbrev cX1_requireViewer : ByteArray := prog_1_method_28_code
def yX1_requireViewer : MethodName := ⟨RX1, "requireViewer", "(I)V"⟩
abbrev cX1_isDeal : ByteArray := prog_1_method_29_code
def yX1_isDeal : MethodName := ⟨RX1, "isDeal", "(IIII)Z"⟩
abbrev cX1_isHonestIn : ByteArray := prog_1_method_30_code
def yX1_isHonestIn : MethodName := ⟨RX1, "isHonestIn", "(III)Z"⟩
abbrev cX1_setOf : ByteArray := prog_1_method_31_code
def yX1_setOf : MethodName := ⟨RX1, "setOf", "(I)I"⟩
abbrev cX1_everyone : ByteArray := prog_1_method_32_code
def yX1_everyone : MethodName := ⟨RX1, "everyone", "(I)I"⟩
abbrev cX1_isAlive : ByteArray := prog_1_method_33_code
def yX1_isAlive : MethodName := ⟨RX1, "isAlive", "(I)Z"⟩
abbrev cX1_isWitch : ByteArray := prog_1_method_34_code
def yX1_isWitch : MethodName := ⟨RX1, "isWitch", "(I)Z"⟩
abbrev cX1_makeClaim : ByteArray := prog_1_method_35_code
def yX1_makeClaim : MethodName := ⟨RX1, "makeClaim", "(IIZ)I"⟩
abbrev cX1_countVotes : ByteArray := prog_1_method_36_code
def yX1_countVotes : MethodName := ⟨RX1, "countVotes", "(I)I"⟩
abbrev cX1_playerWithMostVotes : ByteArray := prog_1_method_37_code
def yX1_playerWithMostVotes : MethodName := ⟨RX1, "playerWithMostVotes", "()I"⟩
abbrev cX1_forgetVotes : ByteArray := prog_1_method_38_code
def yX1_forgetVotes : MethodName := ⟨RX1, "forgetVotes", "()V"⟩
abbrev cX1_forgetChoices : ByteArray := prog_1_method_39_code
def yX1_forgetChoices : MethodName := ⟨RX1, "forgetChoices", "()V"⟩
abbrev cX1_die : ByteArray := prog_1_method_40_code
def yX1_die : MethodName := ⟨RX1, "die", "(I)V"⟩
abbrev cX1_seerLooks : ByteArray := prog_1_method_41_code
def yX1_seerLooks : MethodName := ⟨RX1, "seerLooks", "()V"⟩
abbrev cX1_worldOf : ByteArray := prog_1_method_42_code
def yX1_worldOf : MethodName := ⟨RX1, "worldOf", "(III)I"⟩
abbrev cX1_witchesOf : ByteArray := prog_1_method_43_code
def yX1_witchesOf : MethodName := ⟨RX1, "witchesOf", "(I)I"⟩
abbrev cX1_roleBits : ByteArray := prog_1_method_44_code
def yX1_roleBits : MethodName := ⟨RX1, "roleBits", "(I)I"⟩
abbrev cX1_bitOfRole : ByteArray := prog_1_method_45_code
def yX1_bitOfRole : MethodName := ⟨RX1, "bitOfRole", "(II)I"⟩
abbrev cX1_claimedBits : ByteArray := prog_1_method_46_code
def yX1_claimedBits : MethodName := ⟨RX1, "claimedBits", "(II)I"⟩
abbrev cX1_knownBits : ByteArray := prog_1_method_47_code
def yX1_knownBits : MethodName := ⟨RX1, "knownBits", "(I)I"⟩
def RX2 : String := "WitchTrialModel"
def TX2 : u_T := fun k => match k with
  | 0 => ("WitchTrialModel", "thrown", "I", false)
  | 1 => ("WitchTrialModel", "phase", "I", false)
  | 2 => ("WitchTrialModel", "players", "I", false)
  | 3 => ("WitchTrialModel", "witches", "I", false)
  | 4 => ("WitchTrialModel", "seer", "I", false)
  | 5 => ("WitchTrialModel", "guard", "I", false)
  | 6 => ("WitchTrialModel", "isOpen", "[Z", true)
  | 7 => ("WitchTrialModel", "alive", "I", false)
  | 8 => ("WitchTrialModel", "day", "I", false)
  | 9 => ("WitchTrialModel", "looked", "I", false)
  | 10 => ("WitchTrialModel", "votes", "[I", true)
  | 11 => ("WitchTrialModel", "shielded", "I", false)
  | 12 => ("WitchTrialModel", "shieldedBefore", "I", false)
  | 13 => ("WitchTrialModel", "attacked", "I", false)
  | 14 => ("WitchTrialModel", "watched", "I", false)
  | _ => ("WitchTrialModel", "many", "[I", true)
def tyX2 : Nat → FieldType := fun k => match k with
  | 0 => .int
  | 1 => .int
  | 2 => .int
  | 3 => .int
  | 4 => .int
  | 5 => .int
  | 6 => .array .boolean
  | 7 => .int
  | 8 => .int
  | 9 => .int
  | 10 => .array .int
  | 11 => .int
  | 12 => .int
  | 13 => .int
  | 14 => .int
  | _ => .array .int
abbrev wsX20 : List Cond := u_ws RX2 TX2 16
theorem nmX2 : ∀ a, a < 16 → ∀ b, b < 16 → a ≠ b → (TX2 a).2.1 ≠ (TX2 b).2.1 := by decide +kernel
theorem tyX2_ok : ∀ k, k < 16 → parseFieldDescriptor (TX2 k).2.2.1 = some (tyX2 k) := by decide +kernel
abbrev cX2_init : ByteArray := prog_4_method_1_code
def yX2_init : MethodName := ⟨RX2, "<init>", "()V"⟩
abbrev cX2_thrown : ByteArray := prog_4_method_2_code
def yX2_thrown : MethodName := ⟨RX2, "thrown", "()I"⟩
abbrev cX2_in : ByteArray := prog_4_method_3_code
def yX2_in : MethodName := ⟨RX2, "in", "(III)Z"⟩
abbrev cX2_bits : ByteArray := prog_4_method_4_code
def yX2_bits : MethodName := ⟨RX2, "bits", "(I)I"⟩
abbrev cX2_has : ByteArray := prog_4_method_5_code
def yX2_has : MethodName := ⟨RX2, "has", "(II)Z"⟩
abbrev cX2_isPlayer : ByteArray := prog_4_method_6_code
def yX2_isPlayer : MethodName := ⟨RX2, "isPlayer", "(I)Z"⟩
abbrev cX2_isViewer : ByteArray := prog_4_method_7_code
def yX2_isViewer : MethodName := ⟨RX2, "isViewer", "(I)Z"⟩
abbrev cX2_isWorld : ByteArray := prog_4_method_8_code
def yX2_isWorld : MethodName := ⟨RX2, "isWorld", "(IIIII)Z"⟩
abbrev cX2_roleIn : ByteArray := prog_4_method_9_code
def yX2_roleIn : MethodName := ⟨RX2, "roleIn", "(II)I"⟩
abbrev cX2_truth : ByteArray := prog_4_method_10_code
def yX2_truth : MethodName := ⟨RX2, "truth", "()I"⟩
abbrev cX2_manyOpen : ByteArray := prog_4_method_11_code
def yX2_manyOpen : MethodName := ⟨RX2, "manyOpen", "()I"⟩
abbrev cX2_isFor : ByteArray := prog_4_method_12_code
def yX2_isFor : MethodName := ⟨RX2, "isFor", "(II)Z"⟩
abbrev cX2_start : ByteArray := prog_4_method_13_code
def yX2_start : MethodName := ⟨RX2, "start", "(IIII)I"⟩
abbrev cX2_forgets : ByteArray := prog_4_method_14_code
def yX2_forgets : MethodName := ⟨RX2, "forgets", "()V"⟩
abbrev cX2_phase : ByteArray := prog_4_method_15_code
def yX2_phase : MethodName := ⟨RX2, "phase", "()I"⟩
abbrev cX2_isTrue : ByteArray := prog_4_method_16_code
def yX2_isTrue : MethodName := ⟨RX2, "isTrue", "(III)Z"⟩
abbrev cX2_may : ByteArray := prog_4_method_17_code
def yX2_may : MethodName := ⟨RX2, "may", "(IZ)Z"⟩
abbrev cX2_claim : ByteArray := prog_4_method_18_code
def yX2_claim : MethodName := ⟨RX2, "claim", "(III)I"⟩
abbrev cX2_claimAmong : ByteArray := prog_4_method_19_code
def yX2_claimAmong : MethodName := ⟨RX2, "claimAmong", "(II)I"⟩
abbrev cX2_manyVotes : ByteArray := prog_4_method_20_code
def yX2_manyVotes : MethodName := ⟨RX2, "manyVotes", "(I)I"⟩
abbrev cX2_vote : ByteArray := prog_4_method_21_code
def yX2_vote : MethodName := ⟨RX2, "vote", "(II)I"⟩
abbrev cX2_dies : ByteArray := prog_4_method_22_code
def yX2_dies : MethodName := ⟨RX2, "dies", "(I)V"⟩
abbrev cX2_closeVote : ByteArray := prog_4_method_23_code
def yX2_closeVote : MethodName := ⟨RX2, "closeVote", "()I"⟩
abbrev cX2_protect : ByteArray := prog_4_method_24_code
def yX2_protect : MethodName := ⟨RX2, "protect", "(I)I"⟩
abbrev cX2_attack : ByteArray := prog_4_method_25_code
def yX2_attack : MethodName := ⟨RX2, "attack", "(I)I"⟩
abbrev cX2_look : ByteArray := prog_4_method_26_code
def yX2_look : MethodName := ⟨RX2, "look", "(I)I"⟩
abbrev cX2_endNight : ByteArray := prog_4_method_27_code
def yX2_endNight : MethodName := ⟨RX2, "endNight", "()I"⟩
abbrev cX2_isGame : ByteArray := prog_4_method_28_code
def yX2_isGame : MethodName := ⟨RX2, "isGame", "()Z"⟩
abbrev cX2_day : ByteArray := prog_4_method_29_code
def yX2_day : MethodName := ⟨RX2, "day", "()I"⟩
abbrev cX2_alive : ByteArray := prog_4_method_30_code
def yX2_alive : MethodName := ⟨RX2, "alive", "()I"⟩
abbrev cX2_votesFor : ByteArray := prog_4_method_31_code
def yX2_votesFor : MethodName := ⟨RX2, "votesFor", "(I)I"⟩
abbrev cX2_lookedAt : ByteArray := prog_4_method_32_code
def yX2_lookedAt : MethodName := ⟨RX2, "lookedAt", "()I"⟩
abbrev cX2_asks : ByteArray := prog_4_method_33_code
def yX2_asks : MethodName := ⟨RX2, "asks", "(I)Z"⟩
abbrev cX2_manyFor : ByteArray := prog_4_method_34_code
def yX2_manyFor : MethodName := ⟨RX2, "manyFor", "(I)I"⟩
abbrev cX2_worlds : ByteArray := prog_4_method_35_code
def yX2_worlds : MethodName := ⟨RX2, "worlds", "(I)I"⟩
abbrev cX2_manyWith : ByteArray := prog_4_method_36_code
def yX2_manyWith : MethodName := ⟨RX2, "manyWith", "(III)I"⟩
abbrev cX2_worldsWith : ByteArray := prog_4_method_37_code
def yX2_worldsWith : MethodName := ⟨RX2, "worldsWith", "(III)I"⟩
abbrev cX2_inSome : ByteArray := prog_4_method_38_code
def yX2_inSome : MethodName := ⟨RX2, "inSome", "(IZ)I"⟩
abbrev cX2_sureWitches : ByteArray := prog_4_method_39_code
def yX2_sureWitches : MethodName := ⟨RX2, "sureWitches", "(I)I"⟩
abbrev cX2_sureHonest : ByteArray := prog_4_method_40_code
def yX2_sureHonest : MethodName := ⟨RX2, "sureHonest", "(I)I"⟩
abbrev cX2_witchSets : ByteArray := prog_4_method_41_code
def yX2_witchSets : MethodName := ⟨RX2, "witchSets", "(I)I"⟩
abbrev cX2_laysWitches : ByteArray := prog_4_method_42_code
def yX2_laysWitches : MethodName := ⟨RX2, "laysWitches", "(I)V"⟩
abbrev cX2_suspect : ByteArray := prog_4_method_43_code
def yX2_suspect : MethodName := ⟨RX2, "suspect", "(I)I"⟩
abbrev cX2_bestLook : ByteArray := prog_4_method_44_code
def yX2_bestLook : MethodName := ⟨RX2, "bestLook", "()I"⟩
abbrev cX2_isPossible : ByteArray := prog_4_method_45_code
def yX2_isPossible : MethodName := ⟨RX2, "isPossible", "(IIII)Z"⟩
def RJx145de : String := "java/io/Serializable"
def TJx145de : u_T := fun k => match k with
  | _ => ("", "", "", false)
def tyJx145de : Nat → FieldType := fun k => match k with
  | _ => .int
abbrev wsJx145de0 : List Cond := u_ws RJx145de TJx145de 0
theorem nmJx145de : ∀ a, a < 0 → ∀ b, b < 0 → a ≠ b → (TJx145de a).2.1 ≠ (TJx145de b).2.1 := by decide +kernel
theorem tyJx145de_ok : ∀ k, k < 0 → parseFieldDescriptor (TJx145de k).2.2.1 = some (tyJx145de k) := by decide +kernel
def RJ6 : String := "java/lang/Integer"
def TJ6 : u_T := fun k => match k with
  | _ => ("", "", "", false)
def tyJ6 : Nat → FieldType := fun k => match k with
  | _ => .int
abbrev wsJ60 : List Cond := u_ws RJ6 TJ6 0
theorem nmJ6 : ∀ a, a < 0 → ∀ b, b < 0 → a ≠ b → (TJ6 a).2.1 ≠ (TJ6 b).2.1 := by decide +kernel
theorem tyJ6_ok : ∀ k, k < 0 → parseFieldDescriptor (TJ6 k).2.2.1 = some (tyJ6 k) := by decide +kernel
abbrev cJ6_bitCount_0f7a4 : ByteArray := prog_10_method_49_code
def yJ6_bitCount_0f7a4 : MethodName := ⟨RJ6, "bitCount", "(I)I"⟩
def RJ9 : String := "java/lang/Math"
def TJ9 : u_T := fun k => match k with
  | _ => ("", "", "", false)
def tyJ9 : Nat → FieldType := fun k => match k with
  | _ => .int
abbrev wsJ90 : List Cond := u_ws RJ9 TJ9 0
theorem nmJ9 : ∀ a, a < 0 → ∀ b, b < 0 → a ≠ b → (TJ9 a).2.1 ≠ (TJ9 b).2.1 := by decide +kernel
theorem tyJ9_ok : ∀ k, k < 0 → parseFieldDescriptor (TJ9 k).2.2.1 = some (tyJ9 k) := by decide +kernel
abbrev cJ9_max_7cf53 : ByteArray := prog_11_method_65_code
def yJ9_max_7cf53 : MethodName := ⟨RJ9, "max", "(II)I"⟩
def RJ0 : String := "java/lang/String"
def TJ0 : u_T := fun k => match k with
  | _ => ("", "", "", false)
def tyJ0 : Nat → FieldType := fun k => match k with
  | _ => .int
abbrev wsJ00 : List Cond := u_ws RJ0 TJ0 0
theorem nmJ0 : ∀ a, a < 0 → ∀ b, b < 0 → a ≠ b → (TJ0 a).2.1 ≠ (TJ0 b).2.1 := by decide +kernel
theorem tyJ0_ok : ∀ k, k < 0 → parseFieldDescriptor (TJ0 k).2.2.1 = some (tyJ0 k) := by decide +kernel
def RJ7 : String := "java/util/Arrays"
def TJ7 : u_T := fun k => match k with
  | _ => ("", "", "", false)
def tyJ7 : Nat → FieldType := fun k => match k with
  | _ => .int
abbrev wsJ70 : List Cond := u_ws RJ7 TJ7 0
theorem nmJ7 : ∀ a, a < 0 → ∀ b, b < 0 → a ≠ b → (TJ7 a).2.1 ≠ (TJ7 b).2.1 := by decide +kernel
theorem tyJ7_ok : ∀ k, k < 0 → parseFieldDescriptor (TJ7 k).2.2.1 = some (tyJ7 k) := by decide +kernel
abbrev cJ7_fill_53178 : ByteArray := prog_15_method_103_code
def yJ7_fill_53178 : MethodName := ⟨RJ7, "fill", "([II)V"⟩
def RL : String := "WitchTrialLaw"
abbrev cL_start : ByteArray := method_3_code
def yL_start : MethodName := ⟨RL, "start", "(LWitchTrial;IIII[J)I"⟩
abbrev cL_claim : ByteArray := method_4_code
def yL_claim : MethodName := ⟨RL, "claim", "(LWitchTrial;III[J)I"⟩
abbrev cL_claimAmong : ByteArray := method_5_code
def yL_claimAmong : MethodName := ⟨RL, "claimAmong", "(LWitchTrial;II[J)I"⟩
abbrev cL_vote : ByteArray := method_6_code
def yL_vote : MethodName := ⟨RL, "vote", "(LWitchTrial;II[J)I"⟩
abbrev cL_closeVote : ByteArray := method_7_code
def yL_closeVote : MethodName := ⟨RL, "closeVote", "(LWitchTrial;[J)I"⟩
abbrev cL_protect : ByteArray := method_8_code
def yL_protect : MethodName := ⟨RL, "protect", "(LWitchTrial;I[J)I"⟩
abbrev cL_attack : ByteArray := method_9_code
def yL_attack : MethodName := ⟨RL, "attack", "(LWitchTrial;I[J)I"⟩
abbrev cL_look : ByteArray := method_10_code
def yL_look : MethodName := ⟨RL, "look", "(LWitchTrial;I[J)I"⟩
abbrev cL_endNight : ByteArray := method_11_code
def yL_endNight : MethodName := ⟨RL, "endNight", "(LWitchTrial;[J)I"⟩
abbrev cL_day : ByteArray := method_12_code
def yL_day : MethodName := ⟨RL, "day", "(LWitchTrial;[J)I"⟩
abbrev cL_alive : ByteArray := method_13_code
def yL_alive : MethodName := ⟨RL, "alive", "(LWitchTrial;[J)I"⟩
abbrev cL_votesFor : ByteArray := method_14_code
def yL_votesFor : MethodName := ⟨RL, "votesFor", "(LWitchTrial;I[J)I"⟩
abbrev cL_lookedAt : ByteArray := method_15_code
def yL_lookedAt : MethodName := ⟨RL, "lookedAt", "(LWitchTrial;[J)I"⟩
abbrev cL_worlds : ByteArray := method_16_code
def yL_worlds : MethodName := ⟨RL, "worlds", "(LWitchTrial;I[J)I"⟩
abbrev cL_worldsWith : ByteArray := method_17_code
def yL_worldsWith : MethodName := ⟨RL, "worldsWith", "(LWitchTrial;III[J)I"⟩
abbrev cL_sureWitches : ByteArray := method_18_code
def yL_sureWitches : MethodName := ⟨RL, "sureWitches", "(LWitchTrial;I[J)I"⟩
abbrev cL_sureHonest : ByteArray := method_19_code
def yL_sureHonest : MethodName := ⟨RL, "sureHonest", "(LWitchTrial;I[J)I"⟩
abbrev cL_witchSets : ByteArray := method_20_code
def yL_witchSets : MethodName := ⟨RL, "witchSets", "(LWitchTrial;I[J)I"⟩
abbrev cL_suspect : ByteArray := method_21_code
def yL_suspect : MethodName := ⟨RL, "suspect", "(LWitchTrial;I[J)I"⟩
abbrev cL_bestLook : ByteArray := method_22_code
def yL_bestLook : MethodName := ⟨RL, "bestLook", "(LWitchTrial;[J)I"⟩
abbrev cL_isPossible : ByteArray := method_23_code
def yL_isPossible : MethodName := ⟨RL, "isPossible", "(LWitchTrial;IIII[J)I"⟩
abbrev cL_law : ByteArray := code
def yL_law : MethodName := ⟨RL, "law", "([I)Z"⟩
def wsX0_init : List Cond := .code yX0_init cX0_init 1 none :: ([.methodLink RX0 3 objectInit, .instanceMethod objectInit, .code objectInit ⟨#[0xb1]⟩ 1 none, .arrayClass .int, .fieldLink RX0 11 "WitchTrial$Book" "pages" "[I"] ++ wsX00)
def wsJ7_fill_53178 : List Cond := .code yJ7_fill_53178 cJ7_fill_53178 4 none :: ([])
def wsX1_witchesOf : List Cond := .code yX1_witchesOf cX1_witchesOf 1 (some .int) :: ([])
def wsJ6_bitCount_0f7a4 : List Cond := .code yJ6_bitCount_0f7a4 cJ6_bitCount_0f7a4 1 (some .int) :: ([.constant RJ6 265 (1431655765), .constant RJ6 266 (858993459), .constant RJ6 267 (252645135)])
def wsX1_everyone : List Cond := .code yX1_everyone cX1_everyone 1 (some .int) :: ([])
def wsX1_setOf : List Cond := .code yX1_setOf cX1_setOf 1 (some .int) :: ([])
def wsX1_isHonestIn : List Cond := .code yX1_isHonestIn cX1_isHonestIn 3 (some .boolean) :: ([.methodLink RX1 194 yX1_setOf, .static yX1_setOf, .initialized RX1, .code yX1_setOf cX1_setOf 1 (some .int)])
def wsX1_worldOf : List Cond := .code yX1_worldOf cX1_worldOf 3 (some .int) :: ([.methodLink RX1 194 yX1_setOf, .static yX1_setOf, .initialized RX1, .code yX1_setOf cX1_setOf 1 (some .int)])
def wsX0_addWorlds : List Cond := .code yX0_addWorlds cX0_addWorlds 8 (some .int) :: ([.fieldLink RX0 11 "WitchTrial$Book" "pages" "[I", .static yX1_isHonestIn, .initialized RX1, .code yX1_isHonestIn cX1_isHonestIn 3 (some .boolean), .methodLink RX1 194 yX1_setOf, .static yX1_setOf, .code yX1_setOf cX1_setOf 1 (some .int), .static yX1_worldOf, .code yX1_worldOf cX1_worldOf 3 (some .int)] ++ wsX00)
def wsX0_open_r1 : List Cond := [Cond.fieldLink RX0 15 "WitchTrial$Book" "truth" "I", Cond.fieldLink RX0 11 "WitchTrial$Book" "pages" "[I", Cond.methodLink RX0 19 yJ7_fill_53178, Cond.static yJ7_fill_53178, Cond.initialized RJ7, Cond.code yJ7_fill_53178 cJ7_fill_53178 4 none, Cond.static yX1_witchesOf, Cond.initialized RX1, Cond.code yX1_witchesOf cX1_witchesOf 1 (some .int), Cond.methodLink RX0 29 yJ6_bitCount_0f7a4, Cond.static yJ6_bitCount_0f7a4, Cond.initialized RJ6, Cond.code yJ6_bitCount_0f7a4 cJ6_bitCount_0f7a4 1 (some .int), Cond.constant RJ6 265 (1431655765), Cond.constant RJ6 266 (858993459), Cond.constant RJ6 267 (252645135), Cond.static yX1_everyone, Cond.code yX1_everyone cX1_everyone 1 (some .int), Cond.methodLink RX0 37 yX0_addWorlds, Cond.instanceMethod yX0_addWorlds, Cond.selects RX0 yX0_addWorlds yX0_addWorlds, Cond.initialized RX0, Cond.code yX0_addWorlds cX0_addWorlds 8 (some .int), Cond.static yX1_isHonestIn]
def wsX0_open_r2 : List Cond := [Cond.code yX1_isHonestIn cX1_isHonestIn 3 (some .boolean), Cond.methodLink RX1 194 yX1_setOf, Cond.static yX1_setOf, Cond.code yX1_setOf cX1_setOf 1 (some .int), Cond.static yX1_worldOf, Cond.code yX1_worldOf cX1_worldOf 3 (some .int)]
def wsX0_open : List Cond := .code yX0_open cX0_open 6 none :: ((wsX0_open_r1 ++ wsX0_open_r2) ++ wsX00)
def wsX0_agreesWithClaim : List Cond := .code yX0_agreesWithClaim cX0_agreesWithClaim 4 (some .boolean) :: ([.static yX1_setOf, .initialized RX1, .code yX1_setOf cX1_setOf 1 (some .int)])
def wsX0_allowsClaim : List Cond := .code yX0_allowsClaim cX0_allowsClaim 4 (some .boolean) :: ([.fieldLink RX0 15 "WitchTrial$Book" "truth" "I", .methodLink RX0 51 yX0_agreesWithClaim, .static yX0_agreesWithClaim, .initialized RX0, .code yX0_agreesWithClaim cX0_agreesWithClaim 4 (some .boolean), .static yX1_setOf, .initialized RX1, .code yX1_setOf cX1_setOf 1 (some .int)] ++ wsX00)
def wsX0_keepClaim : List Cond := .code yX0_keepClaim cX0_keepClaim 7 none :: ([.fieldLink RX0 11 "WitchTrial$Book" "pages" "[I", .methodLink RX0 51 yX0_agreesWithClaim, .static yX0_agreesWithClaim, .initialized RX0, .code yX0_agreesWithClaim cX0_agreesWithClaim 4 (some .boolean), .static yX1_setOf, .initialized RX1, .code yX1_setOf cX1_setOf 1 (some .int)] ++ wsX00)
def wsX0_agrees : List Cond := .code yX0_agrees cX0_agrees 3 (some .boolean) :: ([.fieldLink RX0 15 "WitchTrial$Book" "truth" "I"] ++ wsX00)
def wsX0_count : List Cond := .code yX0_count cX0_count 4 (some .int) :: ([.fieldLink RX0 11 "WitchTrial$Book" "pages" "[I", .methodLink RX0 55 yX0_agrees, .instanceMethod yX0_agrees, .selects RX0 yX0_agrees yX0_agrees, .initialized RX0, .code yX0_agrees cX0_agrees 3 (some .boolean), .fieldLink RX0 15 "WitchTrial$Book" "truth" "I"] ++ wsX00)
def wsX1_roleBits : List Cond := .code yX1_roleBits cX1_roleBits 1 (some .int) :: ([])
def wsX1_bitOfRole : List Cond := .code yX1_bitOfRole cX1_bitOfRole 2 (some .int) :: ([.methodLink RX1 194 yX1_setOf, .static yX1_setOf, .initialized RX1, .code yX1_setOf cX1_setOf 1 (some .int)])
def wsX0_countWithRole : List Cond := .code yX0_countWithRole cX0_countWithRole 8 (some .int) :: ([.fieldLink RX0 11 "WitchTrial$Book" "pages" "[I", .static yX1_setOf, .initialized RX1, .code yX1_setOf cX1_setOf 1 (some .int), .static yX1_roleBits, .code yX1_roleBits cX1_roleBits 1 (some .int), .static yX1_bitOfRole, .code yX1_bitOfRole cX1_bitOfRole 2 (some .int), .methodLink RX1 194 yX1_setOf, .methodLink RX0 55 yX0_agrees, .instanceMethod yX0_agrees, .selects RX0 yX0_agrees yX0_agrees, .initialized RX0, .code yX0_agrees cX0_agrees 3 (some .boolean), .fieldLink RX0 15 "WitchTrial$Book" "truth" "I"] ++ wsX00)
def wsX0_witchesInAll : List Cond := .code yX0_witchesInAll cX0_witchesInAll 4 (some .int) :: ([.fieldLink RX0 11 "WitchTrial$Book" "pages" "[I", .methodLink RX0 55 yX0_agrees, .instanceMethod yX0_agrees, .selects RX0 yX0_agrees yX0_agrees, .initialized RX0, .code yX0_agrees cX0_agrees 3 (some .boolean), .fieldLink RX0 15 "WitchTrial$Book" "truth" "I", .static yX1_witchesOf, .initialized RX1, .code yX1_witchesOf cX1_witchesOf 1 (some .int)] ++ wsX00)
def wsX0_witchesInAny : List Cond := .code yX0_witchesInAny cX0_witchesInAny 4 (some .int) :: ([.fieldLink RX0 11 "WitchTrial$Book" "pages" "[I", .methodLink RX0 55 yX0_agrees, .instanceMethod yX0_agrees, .selects RX0 yX0_agrees yX0_agrees, .initialized RX0, .code yX0_agrees cX0_agrees 3 (some .boolean), .fieldLink RX0 15 "WitchTrial$Book" "truth" "I", .static yX1_witchesOf, .initialized RX1, .code yX1_witchesOf cX1_witchesOf 1 (some .int)] ++ wsX00)
def wsX0_countWitchSets : List Cond := .code yX0_countWitchSets cX0_countWitchSets 5 (some .int) :: ([.fieldLink RX0 11 "WitchTrial$Book" "pages" "[I", .methodLink RX0 55 yX0_agrees, .instanceMethod yX0_agrees, .selects RX0 yX0_agrees yX0_agrees, .initialized RX0, .code yX0_agrees cX0_agrees 3 (some .boolean), .fieldLink RX0 15 "WitchTrial$Book" "truth" "I", .static yX1_witchesOf, .initialized RX1, .code yX1_witchesOf cX1_witchesOf 1 (some .int)] ++ wsX00)
def wsX0_contains : List Cond := .code yX0_contains cX0_contains 4 (some .boolean) :: ([.fieldLink RX0 11 "WitchTrial$Book" "pages" "[I", .methodLink RX0 55 yX0_agrees, .instanceMethod yX0_agrees, .selects RX0 yX0_agrees yX0_agrees, .initialized RX0, .code yX0_agrees cX0_agrees 3 (some .boolean), .fieldLink RX0 15 "WitchTrial$Book" "truth" "I"] ++ wsX00)
def wsX1_init : List Cond := .code yX1_init cX1_init 1 none :: ([.methodLink RX1 3 objectInit, .instanceMethod objectInit, .code objectInit ⟨#[0xb1]⟩ 1 none, .classLink RX1 9 RX0, .instantiable RX0 2, .initialized RX0, .fieldLink RX1 12 "WitchTrial" "book" "LWitchTrial$Book;", .arrayClass .int, .fieldLink RX1 16 "WitchTrial" "voteOf" "[I", .fieldLink RX1 20 "WitchTrial" "phase" "I", .fieldLink RX1 24 "WitchTrial" "protectChoice" "I", .fieldLink RX1 27 "WitchTrial" "attackChoice" "I", .fieldLink RX1 30 "WitchTrial" "lookChoice" "I", .fieldLink RX1 33 "WitchTrial" "protectedLastNight" "I", .instanceMethod yX0_init, .code yX0_init cX0_init 1 none, .methodLink RX0 3 objectInit, .fieldLink RX0 11 "WitchTrial$Book" "pages" "[I"] ++ wsX00 ++ wsX10)
def wsX1_isDeal : List Cond := .code yX1_isDeal cX1_isDeal 4 (some .boolean) :: ([.methodLink RX1 59 yX1_everyone, .static yX1_everyone, .initialized RX1, .code yX1_everyone cX1_everyone 1 (some .int), .methodLink RX1 185 yJ6_bitCount_0f7a4, .static yJ6_bitCount_0f7a4, .initialized RJ6, .code yJ6_bitCount_0f7a4 cJ6_bitCount_0f7a4 1 (some .int), .constant RJ6 265 (1431655765), .constant RJ6 266 (858993459), .constant RJ6 267 (252645135), .methodLink RX1 190 yX1_isHonestIn, .static yX1_isHonestIn, .code yX1_isHonestIn cX1_isHonestIn 3 (some .boolean), .methodLink RX1 194 yX1_setOf, .static yX1_setOf, .code yX1_setOf cX1_setOf 1 (some .int)])
def wsX1_forgetVotes : List Cond := .code yX1_forgetVotes cX1_forgetVotes 1 none :: ([.fieldLink RX1 16 "WitchTrial" "voteOf" "[I", .methodLink RX1 210 yJ7_fill_53178, .static yJ7_fill_53178, .initialized RJ7, .code yJ7_fill_53178 cJ7_fill_53178 4 none] ++ wsX10)
def wsX1_forgetChoices : List Cond := .code yX1_forgetChoices cX1_forgetChoices 1 none :: ([.fieldLink RX1 24 "WitchTrial" "protectChoice" "I", .fieldLink RX1 27 "WitchTrial" "attackChoice" "I", .fieldLink RX1 30 "WitchTrial" "lookChoice" "I"] ++ wsX10)
def wsX1_isWitch : List Cond := .code yX1_isWitch cX1_isWitch 2 (some .boolean) :: ([.fieldLink RX1 50 "WitchTrial" "witchSet" "I", .methodLink RX1 194 yX1_setOf, .static yX1_setOf, .initialized RX1, .code yX1_setOf cX1_setOf 1 (some .int)] ++ wsX10)
def wsX1_knownBits : List Cond := .code yX1_knownBits cX1_knownBits 3 (some .int) :: ([.fieldLink RX1 47 "WitchTrial" "playerCount" "I", .fieldLink RX1 63 "WitchTrial" "aliveSet" "I", .fieldLink RX1 53 "WitchTrial" "seerPlayer" "I", .fieldLink RX1 66 "WitchTrial" "lookedAtSet" "I", .methodLink RX1 59 yX1_everyone, .static yX1_everyone, .initialized RX1, .code yX1_everyone cX1_everyone 1 (some .int), .methodLink RX1 219 yX1_roleBits, .static yX1_roleBits, .code yX1_roleBits cX1_roleBits 1 (some .int), .methodLink RX1 194 yX1_setOf, .static yX1_setOf, .code yX1_setOf cX1_setOf 1 (some .int), .methodLink RX1 135 yX1_isWitch, .instanceMethod yX1_isWitch, .selects RX1 yX1_isWitch yX1_isWitch, .code yX1_isWitch cX1_isWitch 2 (some .boolean), .fieldLink RX1 50 "WitchTrial" "witchSet" "I"] ++ wsX10)
def wsX1_start_r1 : List Cond := [Cond.classLink RX1 40 "java/lang/IllegalArgumentException", Cond.initialized "java/lang/IllegalArgumentException", Cond.fieldLink RX1 47 "WitchTrial" "playerCount" "I", Cond.fieldLink RX1 50 "WitchTrial" "witchSet" "I", Cond.fieldLink RX1 53 "WitchTrial" "seerPlayer" "I", Cond.fieldLink RX1 56 "WitchTrial" "guardPlayer" "I", Cond.fieldLink RX1 63 "WitchTrial" "aliveSet" "I", Cond.fieldLink RX1 66 "WitchTrial" "lookedAtSet" "I", Cond.fieldLink RX1 69 "WitchTrial" "dayNumber" "I", Cond.fieldLink RX1 20 "WitchTrial" "phase" "I", Cond.fieldLink RX1 33 "WitchTrial" "protectedLastNight" "I", Cond.fieldLink RX1 12 "WitchTrial" "book" "LWitchTrial$Book;", Cond.methodLink RX1 36 yX1_isDeal, Cond.static yX1_isDeal, Cond.initialized RX1, Cond.code yX1_isDeal cX1_isDeal 4 (some .boolean), Cond.methodLink RX1 59 yX1_everyone, Cond.static yX1_everyone, Cond.code yX1_everyone cX1_everyone 1 (some .int), Cond.methodLink RX1 185 yJ6_bitCount_0f7a4, Cond.static yJ6_bitCount_0f7a4, Cond.initialized RJ6, Cond.code yJ6_bitCount_0f7a4 cJ6_bitCount_0f7a4 1 (some .int), Cond.constant RJ6 265 (1431655765)]
def wsX1_start_r2 : List Cond := [Cond.constant RJ6 266 (858993459), Cond.constant RJ6 267 (252645135), Cond.methodLink RX1 190 yX1_isHonestIn, Cond.static yX1_isHonestIn, Cond.code yX1_isHonestIn cX1_isHonestIn 3 (some .boolean), Cond.methodLink RX1 194 yX1_setOf, Cond.static yX1_setOf, Cond.code yX1_setOf cX1_setOf 1 (some .int), Cond.methodLink RX1 72 yX1_forgetVotes, Cond.instanceMethod yX1_forgetVotes, Cond.selects RX1 yX1_forgetVotes yX1_forgetVotes, Cond.code yX1_forgetVotes cX1_forgetVotes 1 none, Cond.fieldLink RX1 16 "WitchTrial" "voteOf" "[I", Cond.methodLink RX1 210 yJ7_fill_53178, Cond.static yJ7_fill_53178, Cond.initialized RJ7, Cond.code yJ7_fill_53178 cJ7_fill_53178 4 none, Cond.methodLink RX1 75 yX1_forgetChoices, Cond.instanceMethod yX1_forgetChoices, Cond.selects RX1 yX1_forgetChoices yX1_forgetChoices, Cond.code yX1_forgetChoices cX1_forgetChoices 1 none, Cond.fieldLink RX1 24 "WitchTrial" "protectChoice" "I", Cond.fieldLink RX1 27 "WitchTrial" "attackChoice" "I", Cond.fieldLink RX1 30 "WitchTrial" "lookChoice" "I"]
def wsX1_start_r3 : List Cond := [Cond.methodLink RX1 78 yX1_worldOf, Cond.static yX1_worldOf, Cond.code yX1_worldOf cX1_worldOf 3 (some .int), Cond.instanceMethod yX0_open, Cond.initialized RX0, Cond.selects RX0 yX0_open yX0_open, Cond.code yX0_open cX0_open 6 none, Cond.fieldLink RX0 15 "WitchTrial$Book" "truth" "I", Cond.fieldLink RX0 11 "WitchTrial$Book" "pages" "[I", Cond.methodLink RX0 19 yJ7_fill_53178, Cond.static yX1_witchesOf, Cond.code yX1_witchesOf cX1_witchesOf 1 (some .int), Cond.methodLink RX0 29 yJ6_bitCount_0f7a4, Cond.methodLink RX0 37 yX0_addWorlds, Cond.instanceMethod yX0_addWorlds, Cond.selects RX0 yX0_addWorlds yX0_addWorlds, Cond.code yX0_addWorlds cX0_addWorlds 8 (some .int), Cond.methodLink RX1 86 yX1_knownBits, Cond.instanceMethod yX1_knownBits, Cond.selects RX1 yX1_knownBits yX1_knownBits, Cond.code yX1_knownBits cX1_knownBits 3 (some .int), Cond.methodLink RX1 219 yX1_roleBits, Cond.static yX1_roleBits, Cond.code yX1_roleBits cX1_roleBits 1 (some .int)]
def wsX1_start_r4 : List Cond := [Cond.methodLink RX1 135 yX1_isWitch, Cond.instanceMethod yX1_isWitch, Cond.selects RX1 yX1_isWitch yX1_isWitch, Cond.code yX1_isWitch cX1_isWitch 2 (some .boolean), Cond.instanceMethod yX0_count, Cond.selects RX0 yX0_count yX0_count, Cond.code yX0_count cX0_count 4 (some .int), Cond.methodLink RX0 55 yX0_agrees, Cond.instanceMethod yX0_agrees, Cond.selects RX0 yX0_agrees yX0_agrees, Cond.code yX0_agrees cX0_agrees 3 (some .boolean)]
def wsX1_start : List Cond := .code yX1_start cX1_start 5 (some .int) :: ((wsX1_start_r1 ++ (wsX1_start_r2 ++ (wsX1_start_r3 ++ wsX1_start_r4))) ++ wsX10 ++ wsX00 ++ (vx_atS RX1 44 "java/lang/IllegalArgumentException" ["java/lang/RuntimeException", "java/lang/Exception"]).filter goodWord)
def wsX1_phase : List Cond := .code yX1_phase cX1_phase 1 (some .int) :: ([.fieldLink RX1 20 "WitchTrial" "phase" "I"] ++ wsX10)
def wsX1_requireGame : List Cond := .code yX1_requireGame cX1_requireGame 1 none :: ([.classLink RX1 171 "java/lang/IllegalStateException", .initialized "java/lang/IllegalStateException", .fieldLink RX1 20 "WitchTrial" "phase" "I"] ++ wsX10 ++ (vx_atS RX1 175 "java/lang/IllegalStateException" ["java/lang/RuntimeException", "java/lang/Exception"]).filter goodWord)
def wsX1_requirePlayer : List Cond := .code yX1_requirePlayer cX1_requirePlayer 2 none :: ([.classLink RX1 180 "java/lang/IndexOutOfBoundsException", .initialized "java/lang/IndexOutOfBoundsException", .fieldLink RX1 47 "WitchTrial" "playerCount" "I"] ++ wsX10 ++ (vx_atS RX1 184 "java/lang/IndexOutOfBoundsException" ["java/lang/RuntimeException", "java/lang/Exception"]).filter goodWord)
def wsX1_claimedBits : List Cond := .code yX1_claimedBits cX1_claimedBits 2 (some .int) :: ([.methodLink RX1 216 yX1_bitOfRole, .static yX1_bitOfRole, .initialized RX1, .code yX1_bitOfRole cX1_bitOfRole 2 (some .int), .methodLink RX1 194 yX1_setOf, .static yX1_setOf, .code yX1_setOf cX1_setOf 1 (some .int)])
def wsX1_isAlive : List Cond := .code yX1_isAlive cX1_isAlive 2 (some .boolean) :: ([.fieldLink RX1 63 "WitchTrial" "aliveSet" "I", .methodLink RX1 194 yX1_setOf, .static yX1_setOf, .initialized RX1, .code yX1_setOf cX1_setOf 1 (some .int)] ++ wsX10)
def wsX1_makeClaim_r1 : List Cond := [Cond.classLink RX1 201 "java/util/NoSuchElementException", Cond.initialized "java/util/NoSuchElementException", Cond.fieldLink RX1 20 "WitchTrial" "phase" "I", Cond.fieldLink RX1 12 "WitchTrial" "book" "LWitchTrial$Book;", Cond.methodLink RX1 114 yX1_isAlive, Cond.instanceMethod yX1_isAlive, Cond.selects RX1 yX1_isAlive yX1_isAlive, Cond.initialized RX1, Cond.code yX1_isAlive cX1_isAlive 2 (some .boolean), Cond.fieldLink RX1 63 "WitchTrial" "aliveSet" "I", Cond.methodLink RX1 194 yX1_setOf, Cond.static yX1_setOf, Cond.code yX1_setOf cX1_setOf 1 (some .int), Cond.instanceMethod yX0_allowsClaim, Cond.initialized RX0, Cond.selects RX0 yX0_allowsClaim yX0_allowsClaim, Cond.code yX0_allowsClaim cX0_allowsClaim 4 (some .boolean), Cond.fieldLink RX0 15 "WitchTrial$Book" "truth" "I", Cond.methodLink RX0 51 yX0_agreesWithClaim, Cond.static yX0_agreesWithClaim, Cond.code yX0_agreesWithClaim cX0_agreesWithClaim 4 (some .boolean), Cond.instanceMethod yX0_keepClaim, Cond.selects RX0 yX0_keepClaim yX0_keepClaim, Cond.code yX0_keepClaim cX0_keepClaim 7 none]
def wsX1_makeClaim_r2 : List Cond := [Cond.fieldLink RX0 11 "WitchTrial$Book" "pages" "[I", Cond.methodLink RX1 86 yX1_knownBits, Cond.instanceMethod yX1_knownBits, Cond.selects RX1 yX1_knownBits yX1_knownBits, Cond.code yX1_knownBits cX1_knownBits 3 (some .int), Cond.fieldLink RX1 47 "WitchTrial" "playerCount" "I", Cond.fieldLink RX1 53 "WitchTrial" "seerPlayer" "I", Cond.fieldLink RX1 66 "WitchTrial" "lookedAtSet" "I", Cond.methodLink RX1 59 yX1_everyone, Cond.static yX1_everyone, Cond.code yX1_everyone cX1_everyone 1 (some .int), Cond.methodLink RX1 219 yX1_roleBits, Cond.static yX1_roleBits, Cond.code yX1_roleBits cX1_roleBits 1 (some .int), Cond.methodLink RX1 135 yX1_isWitch, Cond.instanceMethod yX1_isWitch, Cond.selects RX1 yX1_isWitch yX1_isWitch, Cond.code yX1_isWitch cX1_isWitch 2 (some .boolean), Cond.fieldLink RX1 50 "WitchTrial" "witchSet" "I", Cond.instanceMethod yX0_count, Cond.selects RX0 yX0_count yX0_count, Cond.code yX0_count cX0_count 4 (some .int), Cond.methodLink RX0 55 yX0_agrees, Cond.instanceMethod yX0_agrees]
def wsX1_makeClaim_r3 : List Cond := [Cond.selects RX0 yX0_agrees yX0_agrees, Cond.code yX0_agrees cX0_agrees 3 (some .boolean)]
def wsX1_makeClaim : List Cond := .code yX1_makeClaim cX1_makeClaim 4 (some .int) :: ((wsX1_makeClaim_r1 ++ (wsX1_makeClaim_r2 ++ wsX1_makeClaim_r3)) ++ wsX10 ++ wsX00 ++ (vx_atS RX1 205 "java/util/NoSuchElementException" ["java/lang/RuntimeException", "java/lang/Exception"]).filter goodWord)
def wsX1_claim_r1 : List Cond := [Cond.classLink RX1 40 "java/lang/IllegalArgumentException", Cond.initialized "java/lang/IllegalArgumentException", Cond.methodLink RX1 92 yX1_requireGame, Cond.instanceMethod yX1_requireGame, Cond.selects RX1 yX1_requireGame yX1_requireGame, Cond.initialized RX1, Cond.code yX1_requireGame cX1_requireGame 1 none, Cond.classLink RX1 171 "java/lang/IllegalStateException", Cond.initialized "java/lang/IllegalStateException", Cond.fieldLink RX1 20 "WitchTrial" "phase" "I", Cond.methodLink RX1 95 yX1_requirePlayer, Cond.instanceMethod yX1_requirePlayer, Cond.selects RX1 yX1_requirePlayer yX1_requirePlayer, Cond.code yX1_requirePlayer cX1_requirePlayer 2 none, Cond.classLink RX1 180 "java/lang/IndexOutOfBoundsException", Cond.initialized "java/lang/IndexOutOfBoundsException", Cond.fieldLink RX1 47 "WitchTrial" "playerCount" "I", Cond.methodLink RX1 101 yX1_claimedBits, Cond.static yX1_claimedBits, Cond.code yX1_claimedBits cX1_claimedBits 2 (some .int), Cond.methodLink RX1 216 yX1_bitOfRole, Cond.static yX1_bitOfRole, Cond.code yX1_bitOfRole cX1_bitOfRole 2 (some .int), Cond.methodLink RX1 194 yX1_setOf]
def wsX1_claim_r2 : List Cond := [Cond.static yX1_setOf, Cond.code yX1_setOf cX1_setOf 1 (some .int), Cond.methodLink RX1 105 yX1_makeClaim, Cond.instanceMethod yX1_makeClaim, Cond.selects RX1 yX1_makeClaim yX1_makeClaim, Cond.code yX1_makeClaim cX1_makeClaim 4 (some .int), Cond.classLink RX1 201 "java/util/NoSuchElementException", Cond.initialized "java/util/NoSuchElementException", Cond.fieldLink RX1 12 "WitchTrial" "book" "LWitchTrial$Book;", Cond.methodLink RX1 114 yX1_isAlive, Cond.instanceMethod yX1_isAlive, Cond.selects RX1 yX1_isAlive yX1_isAlive, Cond.code yX1_isAlive cX1_isAlive 2 (some .boolean), Cond.fieldLink RX1 63 "WitchTrial" "aliveSet" "I", Cond.instanceMethod yX0_allowsClaim, Cond.initialized RX0, Cond.selects RX0 yX0_allowsClaim yX0_allowsClaim, Cond.code yX0_allowsClaim cX0_allowsClaim 4 (some .boolean), Cond.fieldLink RX0 15 "WitchTrial$Book" "truth" "I", Cond.methodLink RX0 51 yX0_agreesWithClaim, Cond.static yX0_agreesWithClaim, Cond.code yX0_agreesWithClaim cX0_agreesWithClaim 4 (some .boolean), Cond.instanceMethod yX0_keepClaim, Cond.selects RX0 yX0_keepClaim yX0_keepClaim]
def wsX1_claim_r3 : List Cond := [Cond.code yX0_keepClaim cX0_keepClaim 7 none, Cond.fieldLink RX0 11 "WitchTrial$Book" "pages" "[I", Cond.methodLink RX1 86 yX1_knownBits, Cond.instanceMethod yX1_knownBits, Cond.selects RX1 yX1_knownBits yX1_knownBits, Cond.code yX1_knownBits cX1_knownBits 3 (some .int), Cond.fieldLink RX1 53 "WitchTrial" "seerPlayer" "I", Cond.fieldLink RX1 66 "WitchTrial" "lookedAtSet" "I", Cond.methodLink RX1 59 yX1_everyone, Cond.static yX1_everyone, Cond.code yX1_everyone cX1_everyone 1 (some .int), Cond.methodLink RX1 219 yX1_roleBits, Cond.static yX1_roleBits, Cond.code yX1_roleBits cX1_roleBits 1 (some .int), Cond.methodLink RX1 135 yX1_isWitch, Cond.instanceMethod yX1_isWitch, Cond.selects RX1 yX1_isWitch yX1_isWitch, Cond.code yX1_isWitch cX1_isWitch 2 (some .boolean), Cond.fieldLink RX1 50 "WitchTrial" "witchSet" "I", Cond.instanceMethod yX0_count, Cond.selects RX0 yX0_count yX0_count, Cond.code yX0_count cX0_count 4 (some .int), Cond.methodLink RX0 55 yX0_agrees, Cond.instanceMethod yX0_agrees]
def wsX1_claim_r4 : List Cond := [Cond.selects RX0 yX0_agrees yX0_agrees, Cond.code yX0_agrees cX0_agrees 3 (some .boolean)]
def wsX1_claim : List Cond := .code yX1_claim cX1_claim 4 (some .int) :: ((wsX1_claim_r1 ++ (wsX1_claim_r2 ++ (wsX1_claim_r3 ++ wsX1_claim_r4))) ++ wsX10 ++ wsX00 ++ (vx_atS RX1 44 "java/lang/IllegalArgumentException" ["java/lang/RuntimeException", "java/lang/Exception"]).filter goodWord ++ (vx_atS RX1 175 "java/lang/IllegalStateException" ["java/lang/RuntimeException", "java/lang/Exception"]).filter goodWord ++ (vx_atS RX1 184 "java/lang/IndexOutOfBoundsException" ["java/lang/RuntimeException", "java/lang/Exception"]).filter goodWord ++ (vx_atS RX1 205 "java/util/NoSuchElementException" ["java/lang/RuntimeException", "java/lang/Exception"]).filter goodWord)
def wsX1_claimAmong_r1 : List Cond := [Cond.classLink RX1 40 "java/lang/IllegalArgumentException", Cond.initialized "java/lang/IllegalArgumentException", Cond.fieldLink RX1 47 "WitchTrial" "playerCount" "I", Cond.methodLink RX1 92 yX1_requireGame, Cond.instanceMethod yX1_requireGame, Cond.selects RX1 yX1_requireGame yX1_requireGame, Cond.initialized RX1, Cond.code yX1_requireGame cX1_requireGame 1 none, Cond.classLink RX1 171 "java/lang/IllegalStateException", Cond.initialized "java/lang/IllegalStateException", Cond.fieldLink RX1 20 "WitchTrial" "phase" "I", Cond.methodLink RX1 95 yX1_requirePlayer, Cond.instanceMethod yX1_requirePlayer, Cond.selects RX1 yX1_requirePlayer yX1_requirePlayer, Cond.code yX1_requirePlayer cX1_requirePlayer 2 none, Cond.classLink RX1 180 "java/lang/IndexOutOfBoundsException", Cond.initialized "java/lang/IndexOutOfBoundsException", Cond.methodLink RX1 59 yX1_everyone, Cond.static yX1_everyone, Cond.code yX1_everyone cX1_everyone 1 (some .int), Cond.methodLink RX1 105 yX1_makeClaim, Cond.instanceMethod yX1_makeClaim, Cond.selects RX1 yX1_makeClaim yX1_makeClaim, Cond.code yX1_makeClaim cX1_makeClaim 4 (some .int)]
def wsX1_claimAmong_r2 : List Cond := [Cond.classLink RX1 201 "java/util/NoSuchElementException", Cond.initialized "java/util/NoSuchElementException", Cond.fieldLink RX1 12 "WitchTrial" "book" "LWitchTrial$Book;", Cond.methodLink RX1 114 yX1_isAlive, Cond.instanceMethod yX1_isAlive, Cond.selects RX1 yX1_isAlive yX1_isAlive, Cond.code yX1_isAlive cX1_isAlive 2 (some .boolean), Cond.fieldLink RX1 63 "WitchTrial" "aliveSet" "I", Cond.methodLink RX1 194 yX1_setOf, Cond.static yX1_setOf, Cond.code yX1_setOf cX1_setOf 1 (some .int), Cond.instanceMethod yX0_allowsClaim, Cond.initialized RX0, Cond.selects RX0 yX0_allowsClaim yX0_allowsClaim, Cond.code yX0_allowsClaim cX0_allowsClaim 4 (some .boolean), Cond.fieldLink RX0 15 "WitchTrial$Book" "truth" "I", Cond.methodLink RX0 51 yX0_agreesWithClaim, Cond.static yX0_agreesWithClaim, Cond.code yX0_agreesWithClaim cX0_agreesWithClaim 4 (some .boolean), Cond.instanceMethod yX0_keepClaim, Cond.selects RX0 yX0_keepClaim yX0_keepClaim, Cond.code yX0_keepClaim cX0_keepClaim 7 none, Cond.fieldLink RX0 11 "WitchTrial$Book" "pages" "[I", Cond.methodLink RX1 86 yX1_knownBits]
def wsX1_claimAmong_r3 : List Cond := [Cond.instanceMethod yX1_knownBits, Cond.selects RX1 yX1_knownBits yX1_knownBits, Cond.code yX1_knownBits cX1_knownBits 3 (some .int), Cond.fieldLink RX1 53 "WitchTrial" "seerPlayer" "I", Cond.fieldLink RX1 66 "WitchTrial" "lookedAtSet" "I", Cond.methodLink RX1 219 yX1_roleBits, Cond.static yX1_roleBits, Cond.code yX1_roleBits cX1_roleBits 1 (some .int), Cond.methodLink RX1 135 yX1_isWitch, Cond.instanceMethod yX1_isWitch, Cond.selects RX1 yX1_isWitch yX1_isWitch, Cond.code yX1_isWitch cX1_isWitch 2 (some .boolean), Cond.fieldLink RX1 50 "WitchTrial" "witchSet" "I", Cond.instanceMethod yX0_count, Cond.selects RX0 yX0_count yX0_count, Cond.code yX0_count cX0_count 4 (some .int), Cond.methodLink RX0 55 yX0_agrees, Cond.instanceMethod yX0_agrees, Cond.selects RX0 yX0_agrees yX0_agrees, Cond.code yX0_agrees cX0_agrees 3 (some .boolean)]
def wsX1_claimAmong : List Cond := .code yX1_claimAmong cX1_claimAmong 3 (some .int) :: ((wsX1_claimAmong_r1 ++ (wsX1_claimAmong_r2 ++ wsX1_claimAmong_r3)) ++ wsX10 ++ wsX00 ++ (vx_atS RX1 44 "java/lang/IllegalArgumentException" ["java/lang/RuntimeException", "java/lang/Exception"]).filter goodWord ++ (vx_atS RX1 175 "java/lang/IllegalStateException" ["java/lang/RuntimeException", "java/lang/Exception"]).filter goodWord ++ (vx_atS RX1 184 "java/lang/IndexOutOfBoundsException" ["java/lang/RuntimeException", "java/lang/Exception"]).filter goodWord ++ (vx_atS RX1 205 "java/util/NoSuchElementException" ["java/lang/RuntimeException", "java/lang/Exception"]).filter goodWord)
def wsX1_requirePhase : List Cond := .code yX1_requirePhase cX1_requirePhase 2 none :: ([.classLink RX1 171 "java/lang/IllegalStateException", .initialized "java/lang/IllegalStateException", .fieldLink RX1 20 "WitchTrial" "phase" "I"] ++ wsX10 ++ (vx_atS RX1 175 "java/lang/IllegalStateException" ["java/lang/RuntimeException", "java/lang/Exception"]).filter goodWord)
def wsX1_countVotes : List Cond := .code yX1_countVotes cX1_countVotes 7 (some .int) :: ([.fieldLink RX1 16 "WitchTrial" "voteOf" "[I"] ++ wsX10)
def wsX1_vote_r1 : List Cond := [Cond.classLink RX1 40 "java/lang/IllegalArgumentException", Cond.initialized "java/lang/IllegalArgumentException", Cond.fieldLink RX1 16 "WitchTrial" "voteOf" "[I", Cond.methodLink RX1 111 yX1_requirePhase, Cond.instanceMethod yX1_requirePhase, Cond.selects RX1 yX1_requirePhase yX1_requirePhase, Cond.initialized RX1, Cond.code yX1_requirePhase cX1_requirePhase 2 none, Cond.classLink RX1 171 "java/lang/IllegalStateException", Cond.initialized "java/lang/IllegalStateException", Cond.fieldLink RX1 20 "WitchTrial" "phase" "I", Cond.methodLink RX1 95 yX1_requirePlayer, Cond.instanceMethod yX1_requirePlayer, Cond.selects RX1 yX1_requirePlayer yX1_requirePlayer, Cond.code yX1_requirePlayer cX1_requirePlayer 2 none, Cond.classLink RX1 180 "java/lang/IndexOutOfBoundsException", Cond.initialized "java/lang/IndexOutOfBoundsException", Cond.fieldLink RX1 47 "WitchTrial" "playerCount" "I", Cond.methodLink RX1 114 yX1_isAlive, Cond.instanceMethod yX1_isAlive, Cond.selects RX1 yX1_isAlive yX1_isAlive, Cond.code yX1_isAlive cX1_isAlive 2 (some .boolean), Cond.fieldLink RX1 63 "WitchTrial" "aliveSet" "I", Cond.methodLink RX1 194 yX1_setOf]
def wsX1_vote_r2 : List Cond := [Cond.static yX1_setOf, Cond.code yX1_setOf cX1_setOf 1 (some .int), Cond.methodLink RX1 120 yX1_countVotes, Cond.instanceMethod yX1_countVotes, Cond.selects RX1 yX1_countVotes yX1_countVotes, Cond.code yX1_countVotes cX1_countVotes 7 (some .int)]
def wsX1_vote : List Cond := .code yX1_vote cX1_vote 3 (some .int) :: ((wsX1_vote_r1 ++ wsX1_vote_r2) ++ wsX10 ++ (vx_atS RX1 44 "java/lang/IllegalArgumentException" ["java/lang/RuntimeException", "java/lang/Exception"]).filter goodWord ++ (vx_atS RX1 175 "java/lang/IllegalStateException" ["java/lang/RuntimeException", "java/lang/Exception"]).filter goodWord ++ (vx_atS RX1 184 "java/lang/IndexOutOfBoundsException" ["java/lang/RuntimeException", "java/lang/Exception"]).filter goodWord)
def wsX1_playerWithMostVotes : List Cond := .code yX1_playerWithMostVotes cX1_playerWithMostVotes 5 (some .int) :: ([.fieldLink RX1 47 "WitchTrial" "playerCount" "I", .methodLink RX1 120 yX1_countVotes, .instanceMethod yX1_countVotes, .selects RX1 yX1_countVotes yX1_countVotes, .initialized RX1, .code yX1_countVotes cX1_countVotes 7 (some .int), .fieldLink RX1 16 "WitchTrial" "voteOf" "[I"] ++ wsX10)
def wsX1_die : List Cond := .code yX1_die cX1_die 4 none :: ([.fieldLink RX1 63 "WitchTrial" "aliveSet" "I", .fieldLink RX1 50 "WitchTrial" "witchSet" "I", .fieldLink RX1 20 "WitchTrial" "phase" "I", .methodLink RX1 194 yX1_setOf, .static yX1_setOf, .initialized RX1, .code yX1_setOf cX1_setOf 1 (some .int), .methodLink RX1 185 yJ6_bitCount_0f7a4, .static yJ6_bitCount_0f7a4, .initialized RJ6, .code yJ6_bitCount_0f7a4 cJ6_bitCount_0f7a4 1 (some .int), .constant RJ6 265 (1431655765), .constant RJ6 266 (858993459), .constant RJ6 267 (252645135)] ++ wsX10)
def wsX1_closeVote_r1 : List Cond := [Cond.fieldLink RX1 20 "WitchTrial" "phase" "I", Cond.methodLink RX1 111 yX1_requirePhase, Cond.instanceMethod yX1_requirePhase, Cond.selects RX1 yX1_requirePhase yX1_requirePhase, Cond.initialized RX1, Cond.code yX1_requirePhase cX1_requirePhase 2 none, Cond.classLink RX1 171 "java/lang/IllegalStateException", Cond.initialized "java/lang/IllegalStateException", Cond.methodLink RX1 123 yX1_playerWithMostVotes, Cond.instanceMethod yX1_playerWithMostVotes, Cond.selects RX1 yX1_playerWithMostVotes yX1_playerWithMostVotes, Cond.code yX1_playerWithMostVotes cX1_playerWithMostVotes 5 (some .int), Cond.fieldLink RX1 47 "WitchTrial" "playerCount" "I", Cond.methodLink RX1 120 yX1_countVotes, Cond.instanceMethod yX1_countVotes, Cond.selects RX1 yX1_countVotes yX1_countVotes, Cond.code yX1_countVotes cX1_countVotes 7 (some .int), Cond.fieldLink RX1 16 "WitchTrial" "voteOf" "[I", Cond.methodLink RX1 72 yX1_forgetVotes, Cond.instanceMethod yX1_forgetVotes, Cond.selects RX1 yX1_forgetVotes yX1_forgetVotes, Cond.code yX1_forgetVotes cX1_forgetVotes 1 none, Cond.methodLink RX1 210 yJ7_fill_53178, Cond.static yJ7_fill_53178]
def wsX1_closeVote_r2 : List Cond := [Cond.initialized RJ7, Cond.code yJ7_fill_53178 cJ7_fill_53178 4 none, Cond.methodLink RX1 127 yX1_die, Cond.instanceMethod yX1_die, Cond.selects RX1 yX1_die yX1_die, Cond.code yX1_die cX1_die 4 none, Cond.fieldLink RX1 63 "WitchTrial" "aliveSet" "I", Cond.fieldLink RX1 50 "WitchTrial" "witchSet" "I", Cond.methodLink RX1 194 yX1_setOf, Cond.static yX1_setOf, Cond.code yX1_setOf cX1_setOf 1 (some .int), Cond.methodLink RX1 185 yJ6_bitCount_0f7a4, Cond.static yJ6_bitCount_0f7a4, Cond.initialized RJ6, Cond.code yJ6_bitCount_0f7a4 cJ6_bitCount_0f7a4 1 (some .int), Cond.constant RJ6 265 (1431655765), Cond.constant RJ6 266 (858993459), Cond.constant RJ6 267 (252645135)]
def wsX1_closeVote : List Cond := .code yX1_closeVote cX1_closeVote 2 (some .int) :: ((wsX1_closeVote_r1 ++ wsX1_closeVote_r2) ++ wsX10 ++ (vx_atS RX1 175 "java/lang/IllegalStateException" ["java/lang/RuntimeException", "java/lang/Exception"]).filter goodWord)
def wsX1_requireToLive : List Cond := .code yX1_requireToLive cX1_requireToLive 2 none :: ([.classLink RX1 171 "java/lang/IllegalStateException", .initialized "java/lang/IllegalStateException", .methodLink RX1 114 yX1_isAlive, .instanceMethod yX1_isAlive, .selects RX1 yX1_isAlive yX1_isAlive, .initialized RX1, .code yX1_isAlive cX1_isAlive 2 (some .boolean), .fieldLink RX1 63 "WitchTrial" "aliveSet" "I", .methodLink RX1 194 yX1_setOf, .static yX1_setOf, .code yX1_setOf cX1_setOf 1 (some .int)] ++ wsX10 ++ (vx_atS RX1 175 "java/lang/IllegalStateException" ["java/lang/RuntimeException", "java/lang/Exception"]).filter goodWord)
def wsX1_protect_r1 : List Cond := [Cond.classLink RX1 40 "java/lang/IllegalArgumentException", Cond.initialized "java/lang/IllegalArgumentException", Cond.fieldLink RX1 56 "WitchTrial" "guardPlayer" "I", Cond.fieldLink RX1 33 "WitchTrial" "protectedLastNight" "I", Cond.fieldLink RX1 24 "WitchTrial" "protectChoice" "I", Cond.methodLink RX1 111 yX1_requirePhase, Cond.instanceMethod yX1_requirePhase, Cond.selects RX1 yX1_requirePhase yX1_requirePhase, Cond.initialized RX1, Cond.code yX1_requirePhase cX1_requirePhase 2 none, Cond.classLink RX1 171 "java/lang/IllegalStateException", Cond.initialized "java/lang/IllegalStateException", Cond.fieldLink RX1 20 "WitchTrial" "phase" "I", Cond.methodLink RX1 130 yX1_requireToLive, Cond.instanceMethod yX1_requireToLive, Cond.selects RX1 yX1_requireToLive yX1_requireToLive, Cond.code yX1_requireToLive cX1_requireToLive 2 none, Cond.methodLink RX1 114 yX1_isAlive, Cond.instanceMethod yX1_isAlive, Cond.selects RX1 yX1_isAlive yX1_isAlive, Cond.code yX1_isAlive cX1_isAlive 2 (some .boolean), Cond.fieldLink RX1 63 "WitchTrial" "aliveSet" "I", Cond.methodLink RX1 194 yX1_setOf, Cond.static yX1_setOf]
def wsX1_protect_r2 : List Cond := [Cond.code yX1_setOf cX1_setOf 1 (some .int), Cond.methodLink RX1 95 yX1_requirePlayer, Cond.instanceMethod yX1_requirePlayer, Cond.selects RX1 yX1_requirePlayer yX1_requirePlayer, Cond.code yX1_requirePlayer cX1_requirePlayer 2 none, Cond.classLink RX1 180 "java/lang/IndexOutOfBoundsException", Cond.initialized "java/lang/IndexOutOfBoundsException", Cond.fieldLink RX1 47 "WitchTrial" "playerCount" "I"]
def wsX1_protect : List Cond := .code yX1_protect cX1_protect 3 (some .int) :: ((wsX1_protect_r1 ++ wsX1_protect_r2) ++ wsX10 ++ (vx_atS RX1 44 "java/lang/IllegalArgumentException" ["java/lang/RuntimeException", "java/lang/Exception"]).filter goodWord ++ (vx_atS RX1 175 "java/lang/IllegalStateException" ["java/lang/RuntimeException", "java/lang/Exception"]).filter goodWord ++ (vx_atS RX1 184 "java/lang/IndexOutOfBoundsException" ["java/lang/RuntimeException", "java/lang/Exception"]).filter goodWord)
def wsX1_attack_r1 : List Cond := [Cond.classLink RX1 40 "java/lang/IllegalArgumentException", Cond.initialized "java/lang/IllegalArgumentException", Cond.fieldLink RX1 27 "WitchTrial" "attackChoice" "I", Cond.methodLink RX1 111 yX1_requirePhase, Cond.instanceMethod yX1_requirePhase, Cond.selects RX1 yX1_requirePhase yX1_requirePhase, Cond.initialized RX1, Cond.code yX1_requirePhase cX1_requirePhase 2 none, Cond.classLink RX1 171 "java/lang/IllegalStateException", Cond.initialized "java/lang/IllegalStateException", Cond.fieldLink RX1 20 "WitchTrial" "phase" "I", Cond.methodLink RX1 95 yX1_requirePlayer, Cond.instanceMethod yX1_requirePlayer, Cond.selects RX1 yX1_requirePlayer yX1_requirePlayer, Cond.code yX1_requirePlayer cX1_requirePlayer 2 none, Cond.classLink RX1 180 "java/lang/IndexOutOfBoundsException", Cond.initialized "java/lang/IndexOutOfBoundsException", Cond.fieldLink RX1 47 "WitchTrial" "playerCount" "I", Cond.methodLink RX1 114 yX1_isAlive, Cond.instanceMethod yX1_isAlive, Cond.selects RX1 yX1_isAlive yX1_isAlive, Cond.code yX1_isAlive cX1_isAlive 2 (some .boolean), Cond.fieldLink RX1 63 "WitchTrial" "aliveSet" "I", Cond.methodLink RX1 194 yX1_setOf]
def wsX1_attack_r2 : List Cond := [Cond.static yX1_setOf, Cond.code yX1_setOf cX1_setOf 1 (some .int), Cond.methodLink RX1 135 yX1_isWitch, Cond.instanceMethod yX1_isWitch, Cond.selects RX1 yX1_isWitch yX1_isWitch, Cond.code yX1_isWitch cX1_isWitch 2 (some .boolean), Cond.fieldLink RX1 50 "WitchTrial" "witchSet" "I"]
def wsX1_attack : List Cond := .code yX1_attack cX1_attack 3 (some .int) :: ((wsX1_attack_r1 ++ wsX1_attack_r2) ++ wsX10 ++ (vx_atS RX1 44 "java/lang/IllegalArgumentException" ["java/lang/RuntimeException", "java/lang/Exception"]).filter goodWord ++ (vx_atS RX1 175 "java/lang/IllegalStateException" ["java/lang/RuntimeException", "java/lang/Exception"]).filter goodWord ++ (vx_atS RX1 184 "java/lang/IndexOutOfBoundsException" ["java/lang/RuntimeException", "java/lang/Exception"]).filter goodWord)
def wsX1_look_r1 : List Cond := [Cond.classLink RX1 40 "java/lang/IllegalArgumentException", Cond.initialized "java/lang/IllegalArgumentException", Cond.fieldLink RX1 53 "WitchTrial" "seerPlayer" "I", Cond.fieldLink RX1 30 "WitchTrial" "lookChoice" "I", Cond.methodLink RX1 111 yX1_requirePhase, Cond.instanceMethod yX1_requirePhase, Cond.selects RX1 yX1_requirePhase yX1_requirePhase, Cond.initialized RX1, Cond.code yX1_requirePhase cX1_requirePhase 2 none, Cond.classLink RX1 171 "java/lang/IllegalStateException", Cond.initialized "java/lang/IllegalStateException", Cond.fieldLink RX1 20 "WitchTrial" "phase" "I", Cond.methodLink RX1 130 yX1_requireToLive, Cond.instanceMethod yX1_requireToLive, Cond.selects RX1 yX1_requireToLive yX1_requireToLive, Cond.code yX1_requireToLive cX1_requireToLive 2 none, Cond.methodLink RX1 114 yX1_isAlive, Cond.instanceMethod yX1_isAlive, Cond.selects RX1 yX1_isAlive yX1_isAlive, Cond.code yX1_isAlive cX1_isAlive 2 (some .boolean), Cond.fieldLink RX1 63 "WitchTrial" "aliveSet" "I", Cond.methodLink RX1 194 yX1_setOf, Cond.static yX1_setOf, Cond.code yX1_setOf cX1_setOf 1 (some .int)]
def wsX1_look_r2 : List Cond := [Cond.methodLink RX1 95 yX1_requirePlayer, Cond.instanceMethod yX1_requirePlayer, Cond.selects RX1 yX1_requirePlayer yX1_requirePlayer, Cond.code yX1_requirePlayer cX1_requirePlayer 2 none, Cond.classLink RX1 180 "java/lang/IndexOutOfBoundsException", Cond.initialized "java/lang/IndexOutOfBoundsException", Cond.fieldLink RX1 47 "WitchTrial" "playerCount" "I"]
def wsX1_look : List Cond := .code yX1_look cX1_look 3 (some .int) :: ((wsX1_look_r1 ++ wsX1_look_r2) ++ wsX10 ++ (vx_atS RX1 44 "java/lang/IllegalArgumentException" ["java/lang/RuntimeException", "java/lang/Exception"]).filter goodWord ++ (vx_atS RX1 175 "java/lang/IllegalStateException" ["java/lang/RuntimeException", "java/lang/Exception"]).filter goodWord ++ (vx_atS RX1 184 "java/lang/IndexOutOfBoundsException" ["java/lang/RuntimeException", "java/lang/Exception"]).filter goodWord)
def wsX1_seerLooks : List Cond := .code yX1_seerLooks cX1_seerLooks 1 none :: ([.fieldLink RX1 30 "WitchTrial" "lookChoice" "I", .fieldLink RX1 53 "WitchTrial" "seerPlayer" "I", .fieldLink RX1 66 "WitchTrial" "lookedAtSet" "I", .methodLink RX1 114 yX1_isAlive, .instanceMethod yX1_isAlive, .selects RX1 yX1_isAlive yX1_isAlive, .initialized RX1, .code yX1_isAlive cX1_isAlive 2 (some .boolean), .fieldLink RX1 63 "WitchTrial" "aliveSet" "I", .methodLink RX1 194 yX1_setOf, .static yX1_setOf, .code yX1_setOf cX1_setOf 1 (some .int)] ++ wsX10)
def wsX1_endNight_r1 : List Cond := [Cond.fieldLink RX1 27 "WitchTrial" "attackChoice" "I", Cond.fieldLink RX1 24 "WitchTrial" "protectChoice" "I", Cond.fieldLink RX1 20 "WitchTrial" "phase" "I", Cond.fieldLink RX1 69 "WitchTrial" "dayNumber" "I", Cond.fieldLink RX1 33 "WitchTrial" "protectedLastNight" "I", Cond.methodLink RX1 111 yX1_requirePhase, Cond.instanceMethod yX1_requirePhase, Cond.selects RX1 yX1_requirePhase yX1_requirePhase, Cond.initialized RX1, Cond.code yX1_requirePhase cX1_requirePhase 2 none, Cond.classLink RX1 171 "java/lang/IllegalStateException", Cond.initialized "java/lang/IllegalStateException", Cond.methodLink RX1 127 yX1_die, Cond.instanceMethod yX1_die, Cond.selects RX1 yX1_die yX1_die, Cond.code yX1_die cX1_die 4 none, Cond.fieldLink RX1 63 "WitchTrial" "aliveSet" "I", Cond.fieldLink RX1 50 "WitchTrial" "witchSet" "I", Cond.methodLink RX1 194 yX1_setOf, Cond.static yX1_setOf, Cond.code yX1_setOf cX1_setOf 1 (some .int), Cond.methodLink RX1 185 yJ6_bitCount_0f7a4, Cond.static yJ6_bitCount_0f7a4, Cond.initialized RJ6]
def wsX1_endNight_r2 : List Cond := [Cond.code yJ6_bitCount_0f7a4 cJ6_bitCount_0f7a4 1 (some .int), Cond.constant RJ6 265 (1431655765), Cond.constant RJ6 266 (858993459), Cond.constant RJ6 267 (252645135), Cond.methodLink RX1 142 yX1_seerLooks, Cond.instanceMethod yX1_seerLooks, Cond.selects RX1 yX1_seerLooks yX1_seerLooks, Cond.code yX1_seerLooks cX1_seerLooks 1 none, Cond.fieldLink RX1 30 "WitchTrial" "lookChoice" "I", Cond.fieldLink RX1 53 "WitchTrial" "seerPlayer" "I", Cond.fieldLink RX1 66 "WitchTrial" "lookedAtSet" "I", Cond.methodLink RX1 114 yX1_isAlive, Cond.instanceMethod yX1_isAlive, Cond.selects RX1 yX1_isAlive yX1_isAlive, Cond.code yX1_isAlive cX1_isAlive 2 (some .boolean), Cond.methodLink RX1 75 yX1_forgetChoices, Cond.instanceMethod yX1_forgetChoices, Cond.selects RX1 yX1_forgetChoices yX1_forgetChoices, Cond.code yX1_forgetChoices cX1_forgetChoices 1 none]
def wsX1_endNight : List Cond := .code yX1_endNight cX1_endNight 2 (some .int) :: ((wsX1_endNight_r1 ++ wsX1_endNight_r2) ++ wsX10 ++ (vx_atS RX1 175 "java/lang/IllegalStateException" ["java/lang/RuntimeException", "java/lang/Exception"]).filter goodWord)
def wsX1_day : List Cond := .code yX1_day cX1_day 1 (some .int) :: ([.fieldLink RX1 69 "WitchTrial" "dayNumber" "I", .methodLink RX1 92 yX1_requireGame, .instanceMethod yX1_requireGame, .selects RX1 yX1_requireGame yX1_requireGame, .initialized RX1, .code yX1_requireGame cX1_requireGame 1 none, .classLink RX1 171 "java/lang/IllegalStateException", .initialized "java/lang/IllegalStateException", .fieldLink RX1 20 "WitchTrial" "phase" "I"] ++ wsX10 ++ (vx_atS RX1 175 "java/lang/IllegalStateException" ["java/lang/RuntimeException", "java/lang/Exception"]).filter goodWord)
def wsX1_alive : List Cond := .code yX1_alive cX1_alive 1 (some .int) :: ([.fieldLink RX1 63 "WitchTrial" "aliveSet" "I", .methodLink RX1 92 yX1_requireGame, .instanceMethod yX1_requireGame, .selects RX1 yX1_requireGame yX1_requireGame, .initialized RX1, .code yX1_requireGame cX1_requireGame 1 none, .classLink RX1 171 "java/lang/IllegalStateException", .initialized "java/lang/IllegalStateException", .fieldLink RX1 20 "WitchTrial" "phase" "I"] ++ wsX10 ++ (vx_atS RX1 175 "java/lang/IllegalStateException" ["java/lang/RuntimeException", "java/lang/Exception"]).filter goodWord)
def wsX1_votesFor : List Cond := .code yX1_votesFor cX1_votesFor 2 (some .int) :: ([.methodLink RX1 92 yX1_requireGame, .instanceMethod yX1_requireGame, .selects RX1 yX1_requireGame yX1_requireGame, .initialized RX1, .code yX1_requireGame cX1_requireGame 1 none, .classLink RX1 171 "java/lang/IllegalStateException", .initialized "java/lang/IllegalStateException", .fieldLink RX1 20 "WitchTrial" "phase" "I", .methodLink RX1 95 yX1_requirePlayer, .instanceMethod yX1_requirePlayer, .selects RX1 yX1_requirePlayer yX1_requirePlayer, .code yX1_requirePlayer cX1_requirePlayer 2 none, .classLink RX1 180 "java/lang/IndexOutOfBoundsException", .initialized "java/lang/IndexOutOfBoundsException", .fieldLink RX1 47 "WitchTrial" "playerCount" "I", .methodLink RX1 120 yX1_countVotes, .instanceMethod yX1_countVotes, .selects RX1 yX1_countVotes yX1_countVotes, .code yX1_countVotes cX1_countVotes 7 (some .int), .fieldLink RX1 16 "WitchTrial" "voteOf" "[I"] ++ wsX10 ++ (vx_atS RX1 175 "java/lang/IllegalStateException" ["java/lang/RuntimeException", "java/lang/Exception"]).filter goodWord ++ (vx_atS RX1 184 "java/lang/IndexOutOfBoundsException" ["java/lang/RuntimeException", "java/lang/Exception"]).filter goodWord)
def wsX1_lookedAt : List Cond := .code yX1_lookedAt cX1_lookedAt 1 (some .int) :: ([.fieldLink RX1 66 "WitchTrial" "lookedAtSet" "I", .methodLink RX1 92 yX1_requireGame, .instanceMethod yX1_requireGame, .selects RX1 yX1_requireGame yX1_requireGame, .initialized RX1, .code yX1_requireGame cX1_requireGame 1 none, .classLink RX1 171 "java/lang/IllegalStateException", .initialized "java/lang/IllegalStateException", .fieldLink RX1 20 "WitchTrial" "phase" "I"] ++ wsX10 ++ (vx_atS RX1 175 "java/lang/IllegalStateException" ["java/lang/RuntimeException", "java/lang/Exception"]).filter goodWord)
def wsX1_requireViewer : List Cond := .code yX1_requireViewer cX1_requireViewer 2 none :: ([.methodLink RX1 95 yX1_requirePlayer, .instanceMethod yX1_requirePlayer, .selects RX1 yX1_requirePlayer yX1_requirePlayer, .initialized RX1, .code yX1_requirePlayer cX1_requirePlayer 2 none, .classLink RX1 180 "java/lang/IndexOutOfBoundsException", .initialized "java/lang/IndexOutOfBoundsException", .fieldLink RX1 47 "WitchTrial" "playerCount" "I"] ++ wsX10 ++ (vx_atS RX1 184 "java/lang/IndexOutOfBoundsException" ["java/lang/RuntimeException", "java/lang/Exception"]).filter goodWord)
def wsX1_worlds_r1 : List Cond := [Cond.fieldLink RX1 12 "WitchTrial" "book" "LWitchTrial$Book;", Cond.methodLink RX1 92 yX1_requireGame, Cond.instanceMethod yX1_requireGame, Cond.selects RX1 yX1_requireGame yX1_requireGame, Cond.initialized RX1, Cond.code yX1_requireGame cX1_requireGame 1 none, Cond.classLink RX1 171 "java/lang/IllegalStateException", Cond.initialized "java/lang/IllegalStateException", Cond.fieldLink RX1 20 "WitchTrial" "phase" "I", Cond.methodLink RX1 145 yX1_requireViewer, Cond.instanceMethod yX1_requireViewer, Cond.selects RX1 yX1_requireViewer yX1_requireViewer, Cond.code yX1_requireViewer cX1_requireViewer 2 none, Cond.methodLink RX1 95 yX1_requirePlayer, Cond.instanceMethod yX1_requirePlayer, Cond.selects RX1 yX1_requirePlayer yX1_requirePlayer, Cond.code yX1_requirePlayer cX1_requirePlayer 2 none, Cond.classLink RX1 180 "java/lang/IndexOutOfBoundsException", Cond.initialized "java/lang/IndexOutOfBoundsException", Cond.fieldLink RX1 47 "WitchTrial" "playerCount" "I", Cond.methodLink RX1 86 yX1_knownBits, Cond.instanceMethod yX1_knownBits, Cond.selects RX1 yX1_knownBits yX1_knownBits, Cond.code yX1_knownBits cX1_knownBits 3 (some .int)]
def wsX1_worlds_r2 : List Cond := [Cond.fieldLink RX1 63 "WitchTrial" "aliveSet" "I", Cond.fieldLink RX1 53 "WitchTrial" "seerPlayer" "I", Cond.fieldLink RX1 66 "WitchTrial" "lookedAtSet" "I", Cond.methodLink RX1 59 yX1_everyone, Cond.static yX1_everyone, Cond.code yX1_everyone cX1_everyone 1 (some .int), Cond.methodLink RX1 219 yX1_roleBits, Cond.static yX1_roleBits, Cond.code yX1_roleBits cX1_roleBits 1 (some .int), Cond.methodLink RX1 194 yX1_setOf, Cond.static yX1_setOf, Cond.code yX1_setOf cX1_setOf 1 (some .int), Cond.methodLink RX1 135 yX1_isWitch, Cond.instanceMethod yX1_isWitch, Cond.selects RX1 yX1_isWitch yX1_isWitch, Cond.code yX1_isWitch cX1_isWitch 2 (some .boolean), Cond.fieldLink RX1 50 "WitchTrial" "witchSet" "I", Cond.instanceMethod yX0_count, Cond.initialized RX0, Cond.selects RX0 yX0_count yX0_count, Cond.code yX0_count cX0_count 4 (some .int), Cond.fieldLink RX0 11 "WitchTrial$Book" "pages" "[I", Cond.methodLink RX0 55 yX0_agrees, Cond.instanceMethod yX0_agrees]
def wsX1_worlds_r3 : List Cond := [Cond.selects RX0 yX0_agrees yX0_agrees, Cond.code yX0_agrees cX0_agrees 3 (some .boolean), Cond.fieldLink RX0 15 "WitchTrial$Book" "truth" "I"]
def wsX1_worlds : List Cond := .code yX1_worlds cX1_worlds 2 (some .int) :: ((wsX1_worlds_r1 ++ (wsX1_worlds_r2 ++ wsX1_worlds_r3)) ++ wsX10 ++ wsX00 ++ (vx_atS RX1 175 "java/lang/IllegalStateException" ["java/lang/RuntimeException", "java/lang/Exception"]).filter goodWord ++ (vx_atS RX1 184 "java/lang/IndexOutOfBoundsException" ["java/lang/RuntimeException", "java/lang/Exception"]).filter goodWord)
def wsX1_worldsWith_r1 : List Cond := [Cond.classLink RX1 40 "java/lang/IllegalArgumentException", Cond.initialized "java/lang/IllegalArgumentException", Cond.fieldLink RX1 12 "WitchTrial" "book" "LWitchTrial$Book;", Cond.methodLink RX1 92 yX1_requireGame, Cond.instanceMethod yX1_requireGame, Cond.selects RX1 yX1_requireGame yX1_requireGame, Cond.initialized RX1, Cond.code yX1_requireGame cX1_requireGame 1 none, Cond.classLink RX1 171 "java/lang/IllegalStateException", Cond.initialized "java/lang/IllegalStateException", Cond.fieldLink RX1 20 "WitchTrial" "phase" "I", Cond.methodLink RX1 145 yX1_requireViewer, Cond.instanceMethod yX1_requireViewer, Cond.selects RX1 yX1_requireViewer yX1_requireViewer, Cond.code yX1_requireViewer cX1_requireViewer 2 none, Cond.methodLink RX1 95 yX1_requirePlayer, Cond.instanceMethod yX1_requirePlayer, Cond.selects RX1 yX1_requirePlayer yX1_requirePlayer, Cond.code yX1_requirePlayer cX1_requirePlayer 2 none, Cond.classLink RX1 180 "java/lang/IndexOutOfBoundsException", Cond.initialized "java/lang/IndexOutOfBoundsException", Cond.fieldLink RX1 47 "WitchTrial" "playerCount" "I", Cond.methodLink RX1 86 yX1_knownBits, Cond.instanceMethod yX1_knownBits]
def wsX1_worldsWith_r2 : List Cond := [Cond.selects RX1 yX1_knownBits yX1_knownBits, Cond.code yX1_knownBits cX1_knownBits 3 (some .int), Cond.fieldLink RX1 63 "WitchTrial" "aliveSet" "I", Cond.fieldLink RX1 53 "WitchTrial" "seerPlayer" "I", Cond.fieldLink RX1 66 "WitchTrial" "lookedAtSet" "I", Cond.methodLink RX1 59 yX1_everyone, Cond.static yX1_everyone, Cond.code yX1_everyone cX1_everyone 1 (some .int), Cond.methodLink RX1 219 yX1_roleBits, Cond.static yX1_roleBits, Cond.code yX1_roleBits cX1_roleBits 1 (some .int), Cond.methodLink RX1 194 yX1_setOf, Cond.static yX1_setOf, Cond.code yX1_setOf cX1_setOf 1 (some .int), Cond.methodLink RX1 135 yX1_isWitch, Cond.instanceMethod yX1_isWitch, Cond.selects RX1 yX1_isWitch yX1_isWitch, Cond.code yX1_isWitch cX1_isWitch 2 (some .boolean), Cond.fieldLink RX1 50 "WitchTrial" "witchSet" "I", Cond.instanceMethod yX0_countWithRole, Cond.initialized RX0, Cond.selects RX0 yX0_countWithRole yX0_countWithRole, Cond.code yX0_countWithRole cX0_countWithRole 8 (some .int), Cond.fieldLink RX0 11 "WitchTrial$Book" "pages" "[I"]
def wsX1_worldsWith_r3 : List Cond := [Cond.static yX1_bitOfRole, Cond.code yX1_bitOfRole cX1_bitOfRole 2 (some .int), Cond.methodLink RX0 55 yX0_agrees, Cond.instanceMethod yX0_agrees, Cond.selects RX0 yX0_agrees yX0_agrees, Cond.code yX0_agrees cX0_agrees 3 (some .boolean), Cond.fieldLink RX0 15 "WitchTrial$Book" "truth" "I"]
def wsX1_worldsWith : List Cond := .code yX1_worldsWith cX1_worldsWith 4 (some .int) :: ((wsX1_worldsWith_r1 ++ (wsX1_worldsWith_r2 ++ wsX1_worldsWith_r3)) ++ wsX10 ++ wsX00 ++ (vx_atS RX1 44 "java/lang/IllegalArgumentException" ["java/lang/RuntimeException", "java/lang/Exception"]).filter goodWord ++ (vx_atS RX1 175 "java/lang/IllegalStateException" ["java/lang/RuntimeException", "java/lang/Exception"]).filter goodWord ++ (vx_atS RX1 184 "java/lang/IndexOutOfBoundsException" ["java/lang/RuntimeException", "java/lang/Exception"]).filter goodWord)
def wsX1_sureWitches_r1 : List Cond := [Cond.fieldLink RX1 12 "WitchTrial" "book" "LWitchTrial$Book;", Cond.methodLink RX1 92 yX1_requireGame, Cond.instanceMethod yX1_requireGame, Cond.selects RX1 yX1_requireGame yX1_requireGame, Cond.initialized RX1, Cond.code yX1_requireGame cX1_requireGame 1 none, Cond.classLink RX1 171 "java/lang/IllegalStateException", Cond.initialized "java/lang/IllegalStateException", Cond.fieldLink RX1 20 "WitchTrial" "phase" "I", Cond.methodLink RX1 145 yX1_requireViewer, Cond.instanceMethod yX1_requireViewer, Cond.selects RX1 yX1_requireViewer yX1_requireViewer, Cond.code yX1_requireViewer cX1_requireViewer 2 none, Cond.methodLink RX1 95 yX1_requirePlayer, Cond.instanceMethod yX1_requirePlayer, Cond.selects RX1 yX1_requirePlayer yX1_requirePlayer, Cond.code yX1_requirePlayer cX1_requirePlayer 2 none, Cond.classLink RX1 180 "java/lang/IndexOutOfBoundsException", Cond.initialized "java/lang/IndexOutOfBoundsException", Cond.fieldLink RX1 47 "WitchTrial" "playerCount" "I", Cond.methodLink RX1 86 yX1_knownBits, Cond.instanceMethod yX1_knownBits, Cond.selects RX1 yX1_knownBits yX1_knownBits, Cond.code yX1_knownBits cX1_knownBits 3 (some .int)]
def wsX1_sureWitches_r2 : List Cond := [Cond.fieldLink RX1 63 "WitchTrial" "aliveSet" "I", Cond.fieldLink RX1 53 "WitchTrial" "seerPlayer" "I", Cond.fieldLink RX1 66 "WitchTrial" "lookedAtSet" "I", Cond.methodLink RX1 59 yX1_everyone, Cond.static yX1_everyone, Cond.code yX1_everyone cX1_everyone 1 (some .int), Cond.methodLink RX1 219 yX1_roleBits, Cond.static yX1_roleBits, Cond.code yX1_roleBits cX1_roleBits 1 (some .int), Cond.methodLink RX1 194 yX1_setOf, Cond.static yX1_setOf, Cond.code yX1_setOf cX1_setOf 1 (some .int), Cond.methodLink RX1 135 yX1_isWitch, Cond.instanceMethod yX1_isWitch, Cond.selects RX1 yX1_isWitch yX1_isWitch, Cond.code yX1_isWitch cX1_isWitch 2 (some .boolean), Cond.fieldLink RX1 50 "WitchTrial" "witchSet" "I", Cond.instanceMethod yX0_witchesInAll, Cond.initialized RX0, Cond.selects RX0 yX0_witchesInAll yX0_witchesInAll, Cond.code yX0_witchesInAll cX0_witchesInAll 4 (some .int), Cond.fieldLink RX0 11 "WitchTrial$Book" "pages" "[I", Cond.methodLink RX0 55 yX0_agrees, Cond.instanceMethod yX0_agrees]
def wsX1_sureWitches_r3 : List Cond := [Cond.selects RX0 yX0_agrees yX0_agrees, Cond.code yX0_agrees cX0_agrees 3 (some .boolean), Cond.fieldLink RX0 15 "WitchTrial$Book" "truth" "I", Cond.static yX1_witchesOf, Cond.code yX1_witchesOf cX1_witchesOf 1 (some .int)]
def wsX1_sureWitches : List Cond := .code yX1_sureWitches cX1_sureWitches 2 (some .int) :: ((wsX1_sureWitches_r1 ++ (wsX1_sureWitches_r2 ++ wsX1_sureWitches_r3)) ++ wsX10 ++ wsX00 ++ (vx_atS RX1 175 "java/lang/IllegalStateException" ["java/lang/RuntimeException", "java/lang/Exception"]).filter goodWord ++ (vx_atS RX1 184 "java/lang/IndexOutOfBoundsException" ["java/lang/RuntimeException", "java/lang/Exception"]).filter goodWord)
def wsX1_sureHonest_r1 : List Cond := [Cond.fieldLink RX1 47 "WitchTrial" "playerCount" "I", Cond.fieldLink RX1 12 "WitchTrial" "book" "LWitchTrial$Book;", Cond.methodLink RX1 92 yX1_requireGame, Cond.instanceMethod yX1_requireGame, Cond.selects RX1 yX1_requireGame yX1_requireGame, Cond.initialized RX1, Cond.code yX1_requireGame cX1_requireGame 1 none, Cond.classLink RX1 171 "java/lang/IllegalStateException", Cond.initialized "java/lang/IllegalStateException", Cond.fieldLink RX1 20 "WitchTrial" "phase" "I", Cond.methodLink RX1 145 yX1_requireViewer, Cond.instanceMethod yX1_requireViewer, Cond.selects RX1 yX1_requireViewer yX1_requireViewer, Cond.code yX1_requireViewer cX1_requireViewer 2 none, Cond.methodLink RX1 95 yX1_requirePlayer, Cond.instanceMethod yX1_requirePlayer, Cond.selects RX1 yX1_requirePlayer yX1_requirePlayer, Cond.code yX1_requirePlayer cX1_requirePlayer 2 none, Cond.classLink RX1 180 "java/lang/IndexOutOfBoundsException", Cond.initialized "java/lang/IndexOutOfBoundsException", Cond.methodLink RX1 59 yX1_everyone, Cond.static yX1_everyone, Cond.code yX1_everyone cX1_everyone 1 (some .int), Cond.methodLink RX1 86 yX1_knownBits]
def wsX1_sureHonest_r2 : List Cond := [Cond.instanceMethod yX1_knownBits, Cond.selects RX1 yX1_knownBits yX1_knownBits, Cond.code yX1_knownBits cX1_knownBits 3 (some .int), Cond.fieldLink RX1 63 "WitchTrial" "aliveSet" "I", Cond.fieldLink RX1 53 "WitchTrial" "seerPlayer" "I", Cond.fieldLink RX1 66 "WitchTrial" "lookedAtSet" "I", Cond.methodLink RX1 219 yX1_roleBits, Cond.static yX1_roleBits, Cond.code yX1_roleBits cX1_roleBits 1 (some .int), Cond.methodLink RX1 194 yX1_setOf, Cond.static yX1_setOf, Cond.code yX1_setOf cX1_setOf 1 (some .int), Cond.methodLink RX1 135 yX1_isWitch, Cond.instanceMethod yX1_isWitch, Cond.selects RX1 yX1_isWitch yX1_isWitch, Cond.code yX1_isWitch cX1_isWitch 2 (some .boolean), Cond.fieldLink RX1 50 "WitchTrial" "witchSet" "I", Cond.instanceMethod yX0_witchesInAny, Cond.initialized RX0, Cond.selects RX0 yX0_witchesInAny yX0_witchesInAny, Cond.code yX0_witchesInAny cX0_witchesInAny 4 (some .int), Cond.fieldLink RX0 11 "WitchTrial$Book" "pages" "[I", Cond.methodLink RX0 55 yX0_agrees, Cond.instanceMethod yX0_agrees]
def wsX1_sureHonest_r3 : List Cond := [Cond.selects RX0 yX0_agrees yX0_agrees, Cond.code yX0_agrees cX0_agrees 3 (some .boolean), Cond.fieldLink RX0 15 "WitchTrial$Book" "truth" "I", Cond.static yX1_witchesOf, Cond.code yX1_witchesOf cX1_witchesOf 1 (some .int)]
def wsX1_sureHonest : List Cond := .code yX1_sureHonest cX1_sureHonest 2 (some .int) :: ((wsX1_sureHonest_r1 ++ (wsX1_sureHonest_r2 ++ wsX1_sureHonest_r3)) ++ wsX10 ++ wsX00 ++ (vx_atS RX1 175 "java/lang/IllegalStateException" ["java/lang/RuntimeException", "java/lang/Exception"]).filter goodWord ++ (vx_atS RX1 184 "java/lang/IndexOutOfBoundsException" ["java/lang/RuntimeException", "java/lang/Exception"]).filter goodWord)
def wsX1_witchSets_r1 : List Cond := [Cond.fieldLink RX1 12 "WitchTrial" "book" "LWitchTrial$Book;", Cond.methodLink RX1 92 yX1_requireGame, Cond.instanceMethod yX1_requireGame, Cond.selects RX1 yX1_requireGame yX1_requireGame, Cond.initialized RX1, Cond.code yX1_requireGame cX1_requireGame 1 none, Cond.classLink RX1 171 "java/lang/IllegalStateException", Cond.initialized "java/lang/IllegalStateException", Cond.fieldLink RX1 20 "WitchTrial" "phase" "I", Cond.methodLink RX1 145 yX1_requireViewer, Cond.instanceMethod yX1_requireViewer, Cond.selects RX1 yX1_requireViewer yX1_requireViewer, Cond.code yX1_requireViewer cX1_requireViewer 2 none, Cond.methodLink RX1 95 yX1_requirePlayer, Cond.instanceMethod yX1_requirePlayer, Cond.selects RX1 yX1_requirePlayer yX1_requirePlayer, Cond.code yX1_requirePlayer cX1_requirePlayer 2 none, Cond.classLink RX1 180 "java/lang/IndexOutOfBoundsException", Cond.initialized "java/lang/IndexOutOfBoundsException", Cond.fieldLink RX1 47 "WitchTrial" "playerCount" "I", Cond.methodLink RX1 86 yX1_knownBits, Cond.instanceMethod yX1_knownBits, Cond.selects RX1 yX1_knownBits yX1_knownBits, Cond.code yX1_knownBits cX1_knownBits 3 (some .int)]
def wsX1_witchSets_r2 : List Cond := [Cond.fieldLink RX1 63 "WitchTrial" "aliveSet" "I", Cond.fieldLink RX1 53 "WitchTrial" "seerPlayer" "I", Cond.fieldLink RX1 66 "WitchTrial" "lookedAtSet" "I", Cond.methodLink RX1 59 yX1_everyone, Cond.static yX1_everyone, Cond.code yX1_everyone cX1_everyone 1 (some .int), Cond.methodLink RX1 219 yX1_roleBits, Cond.static yX1_roleBits, Cond.code yX1_roleBits cX1_roleBits 1 (some .int), Cond.methodLink RX1 194 yX1_setOf, Cond.static yX1_setOf, Cond.code yX1_setOf cX1_setOf 1 (some .int), Cond.methodLink RX1 135 yX1_isWitch, Cond.instanceMethod yX1_isWitch, Cond.selects RX1 yX1_isWitch yX1_isWitch, Cond.code yX1_isWitch cX1_isWitch 2 (some .boolean), Cond.fieldLink RX1 50 "WitchTrial" "witchSet" "I", Cond.instanceMethod yX0_countWitchSets, Cond.initialized RX0, Cond.selects RX0 yX0_countWitchSets yX0_countWitchSets, Cond.code yX0_countWitchSets cX0_countWitchSets 5 (some .int), Cond.fieldLink RX0 11 "WitchTrial$Book" "pages" "[I", Cond.methodLink RX0 55 yX0_agrees, Cond.instanceMethod yX0_agrees]
def wsX1_witchSets_r3 : List Cond := [Cond.selects RX0 yX0_agrees yX0_agrees, Cond.code yX0_agrees cX0_agrees 3 (some .boolean), Cond.fieldLink RX0 15 "WitchTrial$Book" "truth" "I", Cond.static yX1_witchesOf, Cond.code yX1_witchesOf cX1_witchesOf 1 (some .int)]
def wsX1_witchSets : List Cond := .code yX1_witchSets cX1_witchSets 2 (some .int) :: ((wsX1_witchSets_r1 ++ (wsX1_witchSets_r2 ++ wsX1_witchSets_r3)) ++ wsX10 ++ wsX00 ++ (vx_atS RX1 175 "java/lang/IllegalStateException" ["java/lang/RuntimeException", "java/lang/Exception"]).filter goodWord ++ (vx_atS RX1 184 "java/lang/IndexOutOfBoundsException" ["java/lang/RuntimeException", "java/lang/Exception"]).filter goodWord)
def wsX1_suspect_r1 : List Cond := [Cond.fieldLink RX1 47 "WitchTrial" "playerCount" "I", Cond.fieldLink RX1 12 "WitchTrial" "book" "LWitchTrial$Book;", Cond.methodLink RX1 92 yX1_requireGame, Cond.instanceMethod yX1_requireGame, Cond.selects RX1 yX1_requireGame yX1_requireGame, Cond.initialized RX1, Cond.code yX1_requireGame cX1_requireGame 1 none, Cond.classLink RX1 171 "java/lang/IllegalStateException", Cond.initialized "java/lang/IllegalStateException", Cond.fieldLink RX1 20 "WitchTrial" "phase" "I", Cond.methodLink RX1 145 yX1_requireViewer, Cond.instanceMethod yX1_requireViewer, Cond.selects RX1 yX1_requireViewer yX1_requireViewer, Cond.code yX1_requireViewer cX1_requireViewer 2 none, Cond.methodLink RX1 95 yX1_requirePlayer, Cond.instanceMethod yX1_requirePlayer, Cond.selects RX1 yX1_requirePlayer yX1_requirePlayer, Cond.code yX1_requirePlayer cX1_requirePlayer 2 none, Cond.classLink RX1 180 "java/lang/IndexOutOfBoundsException", Cond.initialized "java/lang/IndexOutOfBoundsException", Cond.methodLink RX1 86 yX1_knownBits, Cond.instanceMethod yX1_knownBits, Cond.selects RX1 yX1_knownBits yX1_knownBits, Cond.code yX1_knownBits cX1_knownBits 3 (some .int)]
def wsX1_suspect_r2 : List Cond := [Cond.fieldLink RX1 63 "WitchTrial" "aliveSet" "I", Cond.fieldLink RX1 53 "WitchTrial" "seerPlayer" "I", Cond.fieldLink RX1 66 "WitchTrial" "lookedAtSet" "I", Cond.methodLink RX1 59 yX1_everyone, Cond.static yX1_everyone, Cond.code yX1_everyone cX1_everyone 1 (some .int), Cond.methodLink RX1 219 yX1_roleBits, Cond.static yX1_roleBits, Cond.code yX1_roleBits cX1_roleBits 1 (some .int), Cond.methodLink RX1 194 yX1_setOf, Cond.static yX1_setOf, Cond.code yX1_setOf cX1_setOf 1 (some .int), Cond.methodLink RX1 135 yX1_isWitch, Cond.instanceMethod yX1_isWitch, Cond.selects RX1 yX1_isWitch yX1_isWitch, Cond.code yX1_isWitch cX1_isWitch 2 (some .boolean), Cond.fieldLink RX1 50 "WitchTrial" "witchSet" "I", Cond.methodLink RX1 114 yX1_isAlive, Cond.instanceMethod yX1_isAlive, Cond.selects RX1 yX1_isAlive yX1_isAlive, Cond.code yX1_isAlive cX1_isAlive 2 (some .boolean), Cond.instanceMethod yX0_countWithRole, Cond.initialized RX0, Cond.selects RX0 yX0_countWithRole yX0_countWithRole]
def wsX1_suspect_r3 : List Cond := [Cond.code yX0_countWithRole cX0_countWithRole 8 (some .int), Cond.fieldLink RX0 11 "WitchTrial$Book" "pages" "[I", Cond.static yX1_bitOfRole, Cond.code yX1_bitOfRole cX1_bitOfRole 2 (some .int), Cond.methodLink RX0 55 yX0_agrees, Cond.instanceMethod yX0_agrees, Cond.selects RX0 yX0_agrees yX0_agrees, Cond.code yX0_agrees cX0_agrees 3 (some .boolean), Cond.fieldLink RX0 15 "WitchTrial$Book" "truth" "I"]
def wsX1_suspect : List Cond := .code yX1_suspect cX1_suspect 7 (some .int) :: ((wsX1_suspect_r1 ++ (wsX1_suspect_r2 ++ wsX1_suspect_r3)) ++ wsX10 ++ wsX00 ++ (vx_atS RX1 175 "java/lang/IllegalStateException" ["java/lang/RuntimeException", "java/lang/Exception"]).filter goodWord ++ (vx_atS RX1 184 "java/lang/IndexOutOfBoundsException" ["java/lang/RuntimeException", "java/lang/Exception"]).filter goodWord)
def wsX1_bestLook_r1 : List Cond := [Cond.fieldLink RX1 53 "WitchTrial" "seerPlayer" "I", Cond.fieldLink RX1 12 "WitchTrial" "book" "LWitchTrial$Book;", Cond.fieldLink RX1 47 "WitchTrial" "playerCount" "I", Cond.methodLink RX1 162 Lib.Math.max.name, Cond.static Lib.Math.max.name, Cond.initialized "java/lang/Math", Cond.code Lib.Math.max.name Lib.Math.max.code 2 (some .int), Cond.methodLink RX1 92 yX1_requireGame, Cond.instanceMethod yX1_requireGame, Cond.selects RX1 yX1_requireGame yX1_requireGame, Cond.initialized RX1, Cond.code yX1_requireGame cX1_requireGame 1 none, Cond.classLink RX1 171 "java/lang/IllegalStateException", Cond.initialized "java/lang/IllegalStateException", Cond.fieldLink RX1 20 "WitchTrial" "phase" "I", Cond.methodLink RX1 86 yX1_knownBits, Cond.instanceMethod yX1_knownBits, Cond.selects RX1 yX1_knownBits yX1_knownBits, Cond.code yX1_knownBits cX1_knownBits 3 (some .int), Cond.fieldLink RX1 63 "WitchTrial" "aliveSet" "I", Cond.fieldLink RX1 66 "WitchTrial" "lookedAtSet" "I", Cond.methodLink RX1 59 yX1_everyone, Cond.static yX1_everyone, Cond.code yX1_everyone cX1_everyone 1 (some .int)]
def wsX1_bestLook_r2 : List Cond := [Cond.methodLink RX1 219 yX1_roleBits, Cond.static yX1_roleBits, Cond.code yX1_roleBits cX1_roleBits 1 (some .int), Cond.methodLink RX1 194 yX1_setOf, Cond.static yX1_setOf, Cond.code yX1_setOf cX1_setOf 1 (some .int), Cond.methodLink RX1 135 yX1_isWitch, Cond.instanceMethod yX1_isWitch, Cond.selects RX1 yX1_isWitch yX1_isWitch, Cond.code yX1_isWitch cX1_isWitch 2 (some .boolean), Cond.fieldLink RX1 50 "WitchTrial" "witchSet" "I", Cond.instanceMethod yX0_count, Cond.initialized RX0, Cond.selects RX0 yX0_count yX0_count, Cond.code yX0_count cX0_count 4 (some .int), Cond.fieldLink RX0 11 "WitchTrial$Book" "pages" "[I", Cond.methodLink RX0 55 yX0_agrees, Cond.instanceMethod yX0_agrees, Cond.selects RX0 yX0_agrees yX0_agrees, Cond.code yX0_agrees cX0_agrees 3 (some .boolean), Cond.fieldLink RX0 15 "WitchTrial$Book" "truth" "I", Cond.methodLink RX1 114 yX1_isAlive, Cond.instanceMethod yX1_isAlive, Cond.selects RX1 yX1_isAlive yX1_isAlive]
def wsX1_bestLook_r3 : List Cond := [Cond.code yX1_isAlive cX1_isAlive 2 (some .boolean), Cond.instanceMethod yX0_countWithRole, Cond.selects RX0 yX0_countWithRole yX0_countWithRole, Cond.code yX0_countWithRole cX0_countWithRole 8 (some .int), Cond.static yX1_bitOfRole, Cond.code yX1_bitOfRole cX1_bitOfRole 2 (some .int)]
def wsX1_bestLook : List Cond := .code yX1_bestLook cX1_bestLook 8 (some .int) :: ((wsX1_bestLook_r1 ++ (wsX1_bestLook_r2 ++ wsX1_bestLook_r3)) ++ wsX10 ++ wsX00 ++ (vx_atS RX1 175 "java/lang/IllegalStateException" ["java/lang/RuntimeException", "java/lang/Exception"]).filter goodWord)
def wsX1_isPossible_r1 : List Cond := [Cond.fieldLink RX1 12 "WitchTrial" "book" "LWitchTrial$Book;", Cond.methodLink RX1 92 yX1_requireGame, Cond.instanceMethod yX1_requireGame, Cond.selects RX1 yX1_requireGame yX1_requireGame, Cond.initialized RX1, Cond.code yX1_requireGame cX1_requireGame 1 none, Cond.classLink RX1 171 "java/lang/IllegalStateException", Cond.initialized "java/lang/IllegalStateException", Cond.fieldLink RX1 20 "WitchTrial" "phase" "I", Cond.methodLink RX1 145 yX1_requireViewer, Cond.instanceMethod yX1_requireViewer, Cond.selects RX1 yX1_requireViewer yX1_requireViewer, Cond.code yX1_requireViewer cX1_requireViewer 2 none, Cond.methodLink RX1 95 yX1_requirePlayer, Cond.instanceMethod yX1_requirePlayer, Cond.selects RX1 yX1_requirePlayer yX1_requirePlayer, Cond.code yX1_requirePlayer cX1_requirePlayer 2 none, Cond.classLink RX1 180 "java/lang/IndexOutOfBoundsException", Cond.initialized "java/lang/IndexOutOfBoundsException", Cond.fieldLink RX1 47 "WitchTrial" "playerCount" "I", Cond.methodLink RX1 78 yX1_worldOf, Cond.static yX1_worldOf, Cond.code yX1_worldOf cX1_worldOf 3 (some .int), Cond.methodLink RX1 194 yX1_setOf]
def wsX1_isPossible_r2 : List Cond := [Cond.static yX1_setOf, Cond.code yX1_setOf cX1_setOf 1 (some .int), Cond.methodLink RX1 86 yX1_knownBits, Cond.instanceMethod yX1_knownBits, Cond.selects RX1 yX1_knownBits yX1_knownBits, Cond.code yX1_knownBits cX1_knownBits 3 (some .int), Cond.fieldLink RX1 63 "WitchTrial" "aliveSet" "I", Cond.fieldLink RX1 53 "WitchTrial" "seerPlayer" "I", Cond.fieldLink RX1 66 "WitchTrial" "lookedAtSet" "I", Cond.methodLink RX1 59 yX1_everyone, Cond.static yX1_everyone, Cond.code yX1_everyone cX1_everyone 1 (some .int), Cond.methodLink RX1 219 yX1_roleBits, Cond.static yX1_roleBits, Cond.code yX1_roleBits cX1_roleBits 1 (some .int), Cond.methodLink RX1 135 yX1_isWitch, Cond.instanceMethod yX1_isWitch, Cond.selects RX1 yX1_isWitch yX1_isWitch, Cond.code yX1_isWitch cX1_isWitch 2 (some .boolean), Cond.fieldLink RX1 50 "WitchTrial" "witchSet" "I", Cond.instanceMethod yX0_contains, Cond.initialized RX0, Cond.selects RX0 yX0_contains yX0_contains, Cond.code yX0_contains cX0_contains 4 (some .boolean)]
def wsX1_isPossible_r3 : List Cond := [Cond.fieldLink RX0 11 "WitchTrial$Book" "pages" "[I", Cond.methodLink RX0 55 yX0_agrees, Cond.instanceMethod yX0_agrees, Cond.selects RX0 yX0_agrees yX0_agrees, Cond.code yX0_agrees cX0_agrees 3 (some .boolean), Cond.fieldLink RX0 15 "WitchTrial$Book" "truth" "I"]
def wsX1_isPossible : List Cond := .code yX1_isPossible cX1_isPossible 5 (some .boolean) :: ((wsX1_isPossible_r1 ++ (wsX1_isPossible_r2 ++ wsX1_isPossible_r3)) ++ wsX10 ++ wsX00 ++ (vx_atS RX1 175 "java/lang/IllegalStateException" ["java/lang/RuntimeException", "java/lang/Exception"]).filter goodWord ++ (vx_atS RX1 184 "java/lang/IndexOutOfBoundsException" ["java/lang/RuntimeException", "java/lang/Exception"]).filter goodWord)
def wsX2_init : List Cond := .code yX2_init cX2_init 1 none :: ([.methodLink RX2 1 objectInit, .instanceMethod objectInit, .code objectInit ⟨#[0xb1]⟩ 1 none, .arrayClass .boolean, .fieldLink RX2 7 "WitchTrialModel" "isOpen" "[Z", .arrayClass .int, .fieldLink RX2 13 "WitchTrialModel" "votes" "[I", .fieldLink RX2 17 "WitchTrialModel" "many" "[I"] ++ wsX20)
def wsX2_thrown : List Cond := .code yX2_thrown cX2_thrown 1 (some .int) :: ([.fieldLink RX2 20 "WitchTrialModel" "thrown" "I"] ++ wsX20)
def wsX2_in : List Cond := .code yX2_in cX2_in 3 (some .boolean) :: ([])
def wsX2_bits : List Cond := .code yX2_bits cX2_bits 3 (some .int) :: ([])
def wsX2_has : List Cond := .code yX2_has cX2_has 2 (some .boolean) :: ([])
def wsX2_isPlayer : List Cond := .code yX2_isPlayer cX2_isPlayer 2 (some .boolean) :: ([.fieldLink RX2 24 "WitchTrialModel" "players" "I", .methodLink RX2 27 yX2_in, .static yX2_in, .initialized RX2, .code yX2_in cX2_in 3 (some .boolean)] ++ wsX20)
def wsX2_isViewer : List Cond := .code yX2_isViewer cX2_isViewer 2 (some .boolean) :: ([.methodLink RX2 31 yX2_isPlayer, .instanceMethod yX2_isPlayer, .selects RX2 yX2_isPlayer yX2_isPlayer, .initialized RX2, .code yX2_isPlayer cX2_isPlayer 2 (some .boolean), .fieldLink RX2 24 "WitchTrialModel" "players" "I", .methodLink RX2 27 yX2_in, .static yX2_in, .code yX2_in cX2_in 3 (some .boolean)] ++ wsX20)
def wsX2_isWorld : List Cond := .code yX2_isWorld cX2_isWorld 6 (some .boolean) :: ([.methodLink RX2 27 yX2_in, .static yX2_in, .initialized RX2, .code yX2_in cX2_in 3 (some .boolean), .methodLink RX2 35 yX2_bits, .static yX2_bits, .code yX2_bits cX2_bits 3 (some .int), .methodLink RX2 39 yX2_has, .static yX2_has, .code yX2_has cX2_has 2 (some .boolean)])
def wsX2_roleIn : List Cond := .code yX2_roleIn cX2_roleIn 2 (some .int) :: ([.methodLink RX2 39 yX2_has, .static yX2_has, .initialized RX2, .code yX2_has cX2_has 2 (some .boolean)])
def wsX2_truth : List Cond := .code yX2_truth cX2_truth 1 (some .int) :: ([.fieldLink RX2 43 "WitchTrialModel" "witches" "I", .fieldLink RX2 46 "WitchTrialModel" "seer" "I", .fieldLink RX2 49 "WitchTrialModel" "guard" "I"] ++ wsX20)
def wsX2_manyOpen : List Cond := .code yX2_manyOpen cX2_manyOpen 3 (some .int) :: ([.fieldLink RX2 7 "WitchTrialModel" "isOpen" "[Z"] ++ wsX20)
def wsX2_isFor : List Cond := .code yX2_isFor cX2_isFor 5 (some .boolean) :: ([.fieldLink RX2 7 "WitchTrialModel" "isOpen" "[Z", .fieldLink RX2 43 "WitchTrialModel" "witches" "I", .fieldLink RX2 60 "WitchTrialModel" "looked" "I", .methodLink RX2 52 yX2_truth, .instanceMethod yX2_truth, .selects RX2 yX2_truth yX2_truth, .initialized RX2, .code yX2_truth cX2_truth 1 (some .int), .fieldLink RX2 46 "WitchTrialModel" "seer" "I", .fieldLink RX2 49 "WitchTrialModel" "guard" "I", .methodLink RX2 56 yX2_roleIn, .static yX2_roleIn, .code yX2_roleIn cX2_roleIn 2 (some .int), .methodLink RX2 39 yX2_has, .static yX2_has, .code yX2_has cX2_has 2 (some .boolean)] ++ wsX20)
def wsX2_forgets : List Cond := .code yX2_forgets cX2_forgets 2 none :: ([.fieldLink RX2 13 "WitchTrialModel" "votes" "[I", .fieldLink RX2 85 "WitchTrialModel" "shielded" "I", .fieldLink RX2 88 "WitchTrialModel" "attacked" "I", .fieldLink RX2 91 "WitchTrialModel" "watched" "I"] ++ wsX20)
def wsX2_start_r1 : List Cond := [Cond.fieldLink RX2 20 "WitchTrialModel" "thrown" "I", Cond.fieldLink RX2 24 "WitchTrialModel" "players" "I", Cond.fieldLink RX2 43 "WitchTrialModel" "witches" "I", Cond.fieldLink RX2 46 "WitchTrialModel" "seer" "I", Cond.fieldLink RX2 49 "WitchTrialModel" "guard" "I", Cond.fieldLink RX2 7 "WitchTrialModel" "isOpen" "[Z", Cond.fieldLink RX2 67 "WitchTrialModel" "alive" "I", Cond.fieldLink RX2 70 "WitchTrialModel" "phase" "I", Cond.fieldLink RX2 73 "WitchTrialModel" "day" "I", Cond.fieldLink RX2 60 "WitchTrialModel" "looked" "I", Cond.fieldLink RX2 76 "WitchTrialModel" "shieldedBefore" "I", Cond.methodLink RX2 35 yX2_bits, Cond.static yX2_bits, Cond.initialized RX2, Cond.code yX2_bits cX2_bits 3 (some .int), Cond.methodLink RX2 27 yX2_in, Cond.static yX2_in, Cond.code yX2_in cX2_in 3 (some .boolean), Cond.methodLink RX2 63 yX2_isWorld, Cond.static yX2_isWorld, Cond.code yX2_isWorld cX2_isWorld 6 (some .boolean), Cond.methodLink RX2 39 yX2_has, Cond.static yX2_has, Cond.code yX2_has cX2_has 2 (some .boolean)]
def wsX2_start_r2 : List Cond := [Cond.methodLink RX2 79 yX2_forgets, Cond.instanceMethod yX2_forgets, Cond.selects RX2 yX2_forgets yX2_forgets, Cond.code yX2_forgets cX2_forgets 2 none, Cond.fieldLink RX2 13 "WitchTrialModel" "votes" "[I", Cond.fieldLink RX2 85 "WitchTrialModel" "shielded" "I", Cond.fieldLink RX2 88 "WitchTrialModel" "attacked" "I", Cond.fieldLink RX2 91 "WitchTrialModel" "watched" "I", Cond.methodLink RX2 82 yX2_manyOpen, Cond.instanceMethod yX2_manyOpen, Cond.selects RX2 yX2_manyOpen yX2_manyOpen, Cond.code yX2_manyOpen cX2_manyOpen 3 (some .int)]
def wsX2_start : List Cond := .code yX2_start cX2_start 8 (some .int) :: ((wsX2_start_r1 ++ wsX2_start_r2) ++ wsX20)
def wsX2_phase : List Cond := .code yX2_phase cX2_phase 1 (some .int) :: ([.fieldLink RX2 20 "WitchTrialModel" "thrown" "I", .fieldLink RX2 70 "WitchTrialModel" "phase" "I"] ++ wsX20)
def wsX2_isTrue : List Cond := .code yX2_isTrue cX2_isTrue 4 (some .boolean) :: ([.methodLink RX2 56 yX2_roleIn, .static yX2_roleIn, .initialized RX2, .code yX2_roleIn cX2_roleIn 2 (some .int), .methodLink RX2 39 yX2_has, .static yX2_has, .code yX2_has cX2_has 2 (some .boolean)])
def wsX2_may : List Cond := .code yX2_may cX2_may 3 (some .boolean) :: ([.fieldLink RX2 70 "WitchTrialModel" "phase" "I", .fieldLink RX2 67 "WitchTrialModel" "alive" "I", .fieldLink RX2 43 "WitchTrialModel" "witches" "I", .methodLink RX2 39 yX2_has, .static yX2_has, .initialized RX2, .code yX2_has cX2_has 2 (some .boolean)] ++ wsX20)
def wsX2_claim_r1 : List Cond := [Cond.fieldLink RX2 70 "WitchTrialModel" "phase" "I", Cond.fieldLink RX2 20 "WitchTrialModel" "thrown" "I", Cond.fieldLink RX2 7 "WitchTrialModel" "isOpen" "[Z", Cond.methodLink RX2 31 yX2_isPlayer, Cond.instanceMethod yX2_isPlayer, Cond.selects RX2 yX2_isPlayer yX2_isPlayer, Cond.initialized RX2, Cond.code yX2_isPlayer cX2_isPlayer 2 (some .boolean), Cond.fieldLink RX2 24 "WitchTrialModel" "players" "I", Cond.methodLink RX2 27 yX2_in, Cond.static yX2_in, Cond.code yX2_in cX2_in 3 (some .boolean), Cond.methodLink RX2 52 yX2_truth, Cond.instanceMethod yX2_truth, Cond.selects RX2 yX2_truth yX2_truth, Cond.code yX2_truth cX2_truth 1 (some .int), Cond.fieldLink RX2 43 "WitchTrialModel" "witches" "I", Cond.fieldLink RX2 46 "WitchTrialModel" "seer" "I", Cond.fieldLink RX2 49 "WitchTrialModel" "guard" "I", Cond.methodLink RX2 94 yX2_isTrue, Cond.static yX2_isTrue, Cond.code yX2_isTrue cX2_isTrue 4 (some .boolean), Cond.methodLink RX2 56 yX2_roleIn, Cond.static yX2_roleIn]
def wsX2_claim_r2 : List Cond := [Cond.code yX2_roleIn cX2_roleIn 2 (some .int), Cond.methodLink RX2 39 yX2_has, Cond.static yX2_has, Cond.code yX2_has cX2_has 2 (some .boolean), Cond.methodLink RX2 97 yX2_may, Cond.instanceMethod yX2_may, Cond.selects RX2 yX2_may yX2_may, Cond.code yX2_may cX2_may 3 (some .boolean), Cond.fieldLink RX2 67 "WitchTrialModel" "alive" "I", Cond.methodLink RX2 82 yX2_manyOpen, Cond.instanceMethod yX2_manyOpen, Cond.selects RX2 yX2_manyOpen yX2_manyOpen, Cond.code yX2_manyOpen cX2_manyOpen 3 (some .int)]
def wsX2_claim : List Cond := .code yX2_claim cX2_claim 5 (some .int) :: ((wsX2_claim_r1 ++ wsX2_claim_r2) ++ wsX20)
def wsX2_claimAmong_r1 : List Cond := [Cond.fieldLink RX2 70 "WitchTrialModel" "phase" "I", Cond.fieldLink RX2 24 "WitchTrialModel" "players" "I", Cond.fieldLink RX2 43 "WitchTrialModel" "witches" "I", Cond.fieldLink RX2 20 "WitchTrialModel" "thrown" "I", Cond.fieldLink RX2 7 "WitchTrialModel" "isOpen" "[Z", Cond.methodLink RX2 31 yX2_isPlayer, Cond.instanceMethod yX2_isPlayer, Cond.selects RX2 yX2_isPlayer yX2_isPlayer, Cond.initialized RX2, Cond.code yX2_isPlayer cX2_isPlayer 2 (some .boolean), Cond.methodLink RX2 27 yX2_in, Cond.static yX2_in, Cond.code yX2_in cX2_in 3 (some .boolean), Cond.methodLink RX2 97 yX2_may, Cond.instanceMethod yX2_may, Cond.selects RX2 yX2_may yX2_may, Cond.code yX2_may cX2_may 3 (some .boolean), Cond.fieldLink RX2 67 "WitchTrialModel" "alive" "I", Cond.methodLink RX2 39 yX2_has, Cond.static yX2_has, Cond.code yX2_has cX2_has 2 (some .boolean), Cond.methodLink RX2 82 yX2_manyOpen, Cond.instanceMethod yX2_manyOpen, Cond.selects RX2 yX2_manyOpen yX2_manyOpen]
def wsX2_claimAmong_r2 : List Cond := [Cond.code yX2_manyOpen cX2_manyOpen 3 (some .int)]
def wsX2_claimAmong : List Cond := .code yX2_claimAmong cX2_claimAmong 4 (some .int) :: ((wsX2_claimAmong_r1 ++ wsX2_claimAmong_r2) ++ wsX20)
def wsX2_manyVotes : List Cond := .code yX2_manyVotes cX2_manyVotes 4 (some .int) :: ([.fieldLink RX2 13 "WitchTrialModel" "votes" "[I"] ++ wsX20)
def wsX2_vote : List Cond := .code yX2_vote cX2_vote 3 (some .int) :: ([.fieldLink RX2 70 "WitchTrialModel" "phase" "I", .fieldLink RX2 67 "WitchTrialModel" "alive" "I", .fieldLink RX2 20 "WitchTrialModel" "thrown" "I", .fieldLink RX2 13 "WitchTrialModel" "votes" "[I", .methodLink RX2 31 yX2_isPlayer, .instanceMethod yX2_isPlayer, .selects RX2 yX2_isPlayer yX2_isPlayer, .initialized RX2, .code yX2_isPlayer cX2_isPlayer 2 (some .boolean), .fieldLink RX2 24 "WitchTrialModel" "players" "I", .methodLink RX2 27 yX2_in, .static yX2_in, .code yX2_in cX2_in 3 (some .boolean), .methodLink RX2 39 yX2_has, .static yX2_has, .code yX2_has cX2_has 2 (some .boolean), .methodLink RX2 101 yX2_manyVotes, .instanceMethod yX2_manyVotes, .selects RX2 yX2_manyVotes yX2_manyVotes, .code yX2_manyVotes cX2_manyVotes 4 (some .int)] ++ wsX20)
def wsX2_dies : List Cond := .code yX2_dies cX2_dies 4 none :: ([.fieldLink RX2 67 "WitchTrialModel" "alive" "I", .fieldLink RX2 7 "WitchTrialModel" "isOpen" "[Z", .fieldLink RX2 43 "WitchTrialModel" "witches" "I", .fieldLink RX2 70 "WitchTrialModel" "phase" "I", .methodLink RX2 52 yX2_truth, .instanceMethod yX2_truth, .selects RX2 yX2_truth yX2_truth, .initialized RX2, .code yX2_truth cX2_truth 1 (some .int), .fieldLink RX2 46 "WitchTrialModel" "seer" "I", .fieldLink RX2 49 "WitchTrialModel" "guard" "I", .methodLink RX2 56 yX2_roleIn, .static yX2_roleIn, .code yX2_roleIn cX2_roleIn 2 (some .int), .methodLink RX2 39 yX2_has, .static yX2_has, .code yX2_has cX2_has 2 (some .boolean), .methodLink RX2 35 yX2_bits, .static yX2_bits, .code yX2_bits cX2_bits 3 (some .int)] ++ wsX20)
def wsX2_closeVote_r1 : List Cond := [Cond.fieldLink RX2 70 "WitchTrialModel" "phase" "I", Cond.fieldLink RX2 20 "WitchTrialModel" "thrown" "I", Cond.fieldLink RX2 24 "WitchTrialModel" "players" "I", Cond.methodLink RX2 101 yX2_manyVotes, Cond.instanceMethod yX2_manyVotes, Cond.selects RX2 yX2_manyVotes yX2_manyVotes, Cond.initialized RX2, Cond.code yX2_manyVotes cX2_manyVotes 4 (some .int), Cond.fieldLink RX2 13 "WitchTrialModel" "votes" "[I", Cond.methodLink RX2 79 yX2_forgets, Cond.instanceMethod yX2_forgets, Cond.selects RX2 yX2_forgets yX2_forgets, Cond.code yX2_forgets cX2_forgets 2 none, Cond.fieldLink RX2 85 "WitchTrialModel" "shielded" "I", Cond.fieldLink RX2 88 "WitchTrialModel" "attacked" "I", Cond.fieldLink RX2 91 "WitchTrialModel" "watched" "I", Cond.methodLink RX2 104 yX2_dies, Cond.instanceMethod yX2_dies, Cond.selects RX2 yX2_dies yX2_dies, Cond.code yX2_dies cX2_dies 4 none, Cond.fieldLink RX2 67 "WitchTrialModel" "alive" "I", Cond.fieldLink RX2 7 "WitchTrialModel" "isOpen" "[Z", Cond.fieldLink RX2 43 "WitchTrialModel" "witches" "I", Cond.methodLink RX2 52 yX2_truth]
def wsX2_closeVote_r2 : List Cond := [Cond.instanceMethod yX2_truth, Cond.selects RX2 yX2_truth yX2_truth, Cond.code yX2_truth cX2_truth 1 (some .int), Cond.fieldLink RX2 46 "WitchTrialModel" "seer" "I", Cond.fieldLink RX2 49 "WitchTrialModel" "guard" "I", Cond.methodLink RX2 56 yX2_roleIn, Cond.static yX2_roleIn, Cond.code yX2_roleIn cX2_roleIn 2 (some .int), Cond.methodLink RX2 39 yX2_has, Cond.static yX2_has, Cond.code yX2_has cX2_has 2 (some .boolean), Cond.methodLink RX2 35 yX2_bits, Cond.static yX2_bits, Cond.code yX2_bits cX2_bits 3 (some .int)]
def wsX2_closeVote : List Cond := .code yX2_closeVote cX2_closeVote 5 (some .int) :: ((wsX2_closeVote_r1 ++ wsX2_closeVote_r2) ++ wsX20)
def wsX2_protect : List Cond := .code yX2_protect cX2_protect 3 (some .int) :: ([.fieldLink RX2 70 "WitchTrialModel" "phase" "I", .fieldLink RX2 67 "WitchTrialModel" "alive" "I", .fieldLink RX2 49 "WitchTrialModel" "guard" "I", .fieldLink RX2 76 "WitchTrialModel" "shieldedBefore" "I", .fieldLink RX2 20 "WitchTrialModel" "thrown" "I", .fieldLink RX2 85 "WitchTrialModel" "shielded" "I", .methodLink RX2 39 yX2_has, .static yX2_has, .initialized RX2, .code yX2_has cX2_has 2 (some .boolean), .methodLink RX2 31 yX2_isPlayer, .instanceMethod yX2_isPlayer, .selects RX2 yX2_isPlayer yX2_isPlayer, .code yX2_isPlayer cX2_isPlayer 2 (some .boolean), .fieldLink RX2 24 "WitchTrialModel" "players" "I", .methodLink RX2 27 yX2_in, .static yX2_in, .code yX2_in cX2_in 3 (some .boolean)] ++ wsX20)
def wsX2_attack : List Cond := .code yX2_attack cX2_attack 3 (some .int) :: ([.fieldLink RX2 70 "WitchTrialModel" "phase" "I", .fieldLink RX2 67 "WitchTrialModel" "alive" "I", .fieldLink RX2 43 "WitchTrialModel" "witches" "I", .fieldLink RX2 20 "WitchTrialModel" "thrown" "I", .fieldLink RX2 88 "WitchTrialModel" "attacked" "I", .methodLink RX2 31 yX2_isPlayer, .instanceMethod yX2_isPlayer, .selects RX2 yX2_isPlayer yX2_isPlayer, .initialized RX2, .code yX2_isPlayer cX2_isPlayer 2 (some .boolean), .fieldLink RX2 24 "WitchTrialModel" "players" "I", .methodLink RX2 27 yX2_in, .static yX2_in, .code yX2_in cX2_in 3 (some .boolean), .methodLink RX2 39 yX2_has, .static yX2_has, .code yX2_has cX2_has 2 (some .boolean)] ++ wsX20)
def wsX2_look : List Cond := .code yX2_look cX2_look 3 (some .int) :: ([.fieldLink RX2 70 "WitchTrialModel" "phase" "I", .fieldLink RX2 67 "WitchTrialModel" "alive" "I", .fieldLink RX2 46 "WitchTrialModel" "seer" "I", .fieldLink RX2 20 "WitchTrialModel" "thrown" "I", .fieldLink RX2 91 "WitchTrialModel" "watched" "I", .methodLink RX2 39 yX2_has, .static yX2_has, .initialized RX2, .code yX2_has cX2_has 2 (some .boolean), .methodLink RX2 31 yX2_isPlayer, .instanceMethod yX2_isPlayer, .selects RX2 yX2_isPlayer yX2_isPlayer, .code yX2_isPlayer cX2_isPlayer 2 (some .boolean), .fieldLink RX2 24 "WitchTrialModel" "players" "I", .methodLink RX2 27 yX2_in, .static yX2_in, .code yX2_in cX2_in 3 (some .boolean)] ++ wsX20)
def wsX2_endNight_r1 : List Cond := [Cond.fieldLink RX2 70 "WitchTrialModel" "phase" "I", Cond.fieldLink RX2 20 "WitchTrialModel" "thrown" "I", Cond.fieldLink RX2 88 "WitchTrialModel" "attacked" "I", Cond.fieldLink RX2 85 "WitchTrialModel" "shielded" "I", Cond.fieldLink RX2 60 "WitchTrialModel" "looked" "I", Cond.fieldLink RX2 67 "WitchTrialModel" "alive" "I", Cond.fieldLink RX2 46 "WitchTrialModel" "seer" "I", Cond.fieldLink RX2 91 "WitchTrialModel" "watched" "I", Cond.fieldLink RX2 73 "WitchTrialModel" "day" "I", Cond.fieldLink RX2 76 "WitchTrialModel" "shieldedBefore" "I", Cond.methodLink RX2 104 yX2_dies, Cond.instanceMethod yX2_dies, Cond.selects RX2 yX2_dies yX2_dies, Cond.initialized RX2, Cond.code yX2_dies cX2_dies 4 none, Cond.fieldLink RX2 7 "WitchTrialModel" "isOpen" "[Z", Cond.fieldLink RX2 43 "WitchTrialModel" "witches" "I", Cond.methodLink RX2 52 yX2_truth, Cond.instanceMethod yX2_truth, Cond.selects RX2 yX2_truth yX2_truth, Cond.code yX2_truth cX2_truth 1 (some .int), Cond.fieldLink RX2 49 "WitchTrialModel" "guard" "I", Cond.methodLink RX2 56 yX2_roleIn, Cond.static yX2_roleIn]
def wsX2_endNight_r2 : List Cond := [Cond.code yX2_roleIn cX2_roleIn 2 (some .int), Cond.methodLink RX2 39 yX2_has, Cond.static yX2_has, Cond.code yX2_has cX2_has 2 (some .boolean), Cond.methodLink RX2 35 yX2_bits, Cond.static yX2_bits, Cond.code yX2_bits cX2_bits 3 (some .int), Cond.methodLink RX2 79 yX2_forgets, Cond.instanceMethod yX2_forgets, Cond.selects RX2 yX2_forgets yX2_forgets, Cond.code yX2_forgets cX2_forgets 2 none, Cond.fieldLink RX2 13 "WitchTrialModel" "votes" "[I"]
def wsX2_endNight : List Cond := .code yX2_endNight cX2_endNight 2 (some .int) :: ((wsX2_endNight_r1 ++ wsX2_endNight_r2) ++ wsX20)
def wsX2_isGame : List Cond := .code yX2_isGame cX2_isGame 1 (some .boolean) :: ([.fieldLink RX2 70 "WitchTrialModel" "phase" "I", .fieldLink RX2 20 "WitchTrialModel" "thrown" "I"] ++ wsX20)
def wsX2_day : List Cond := .code yX2_day cX2_day 1 (some .int) :: ([.fieldLink RX2 73 "WitchTrialModel" "day" "I", .methodLink RX2 108 yX2_isGame, .instanceMethod yX2_isGame, .selects RX2 yX2_isGame yX2_isGame, .initialized RX2, .code yX2_isGame cX2_isGame 1 (some .boolean), .fieldLink RX2 70 "WitchTrialModel" "phase" "I", .fieldLink RX2 20 "WitchTrialModel" "thrown" "I"] ++ wsX20)
def wsX2_alive : List Cond := .code yX2_alive cX2_alive 1 (some .int) :: ([.fieldLink RX2 67 "WitchTrialModel" "alive" "I", .methodLink RX2 108 yX2_isGame, .instanceMethod yX2_isGame, .selects RX2 yX2_isGame yX2_isGame, .initialized RX2, .code yX2_isGame cX2_isGame 1 (some .boolean), .fieldLink RX2 70 "WitchTrialModel" "phase" "I", .fieldLink RX2 20 "WitchTrialModel" "thrown" "I"] ++ wsX20)
def wsX2_votesFor : List Cond := .code yX2_votesFor cX2_votesFor 2 (some .int) :: ([.fieldLink RX2 70 "WitchTrialModel" "phase" "I", .fieldLink RX2 20 "WitchTrialModel" "thrown" "I", .methodLink RX2 31 yX2_isPlayer, .instanceMethod yX2_isPlayer, .selects RX2 yX2_isPlayer yX2_isPlayer, .initialized RX2, .code yX2_isPlayer cX2_isPlayer 2 (some .boolean), .fieldLink RX2 24 "WitchTrialModel" "players" "I", .methodLink RX2 27 yX2_in, .static yX2_in, .code yX2_in cX2_in 3 (some .boolean), .methodLink RX2 101 yX2_manyVotes, .instanceMethod yX2_manyVotes, .selects RX2 yX2_manyVotes yX2_manyVotes, .code yX2_manyVotes cX2_manyVotes 4 (some .int), .fieldLink RX2 13 "WitchTrialModel" "votes" "[I"] ++ wsX20)
def wsX2_lookedAt : List Cond := .code yX2_lookedAt cX2_lookedAt 1 (some .int) :: ([.fieldLink RX2 60 "WitchTrialModel" "looked" "I", .methodLink RX2 108 yX2_isGame, .instanceMethod yX2_isGame, .selects RX2 yX2_isGame yX2_isGame, .initialized RX2, .code yX2_isGame cX2_isGame 1 (some .boolean), .fieldLink RX2 70 "WitchTrialModel" "phase" "I", .fieldLink RX2 20 "WitchTrialModel" "thrown" "I"] ++ wsX20)
def wsX2_asks : List Cond := .code yX2_asks cX2_asks 2 (some .boolean) :: ([.fieldLink RX2 70 "WitchTrialModel" "phase" "I", .fieldLink RX2 20 "WitchTrialModel" "thrown" "I", .methodLink RX2 112 yX2_isViewer, .instanceMethod yX2_isViewer, .selects RX2 yX2_isViewer yX2_isViewer, .initialized RX2, .code yX2_isViewer cX2_isViewer 2 (some .boolean), .methodLink RX2 31 yX2_isPlayer, .instanceMethod yX2_isPlayer, .selects RX2 yX2_isPlayer yX2_isPlayer, .code yX2_isPlayer cX2_isPlayer 2 (some .boolean), .fieldLink RX2 24 "WitchTrialModel" "players" "I", .methodLink RX2 27 yX2_in, .static yX2_in, .code yX2_in cX2_in 3 (some .boolean)] ++ wsX20)
def wsX2_manyFor : List Cond := .code yX2_manyFor cX2_manyFor 4 (some .int) :: ([.methodLink RX2 115 yX2_isFor, .instanceMethod yX2_isFor, .selects RX2 yX2_isFor yX2_isFor, .initialized RX2, .code yX2_isFor cX2_isFor 5 (some .boolean), .fieldLink RX2 7 "WitchTrialModel" "isOpen" "[Z", .fieldLink RX2 43 "WitchTrialModel" "witches" "I", .fieldLink RX2 60 "WitchTrialModel" "looked" "I", .methodLink RX2 52 yX2_truth, .instanceMethod yX2_truth, .selects RX2 yX2_truth yX2_truth, .code yX2_truth cX2_truth 1 (some .int), .fieldLink RX2 46 "WitchTrialModel" "seer" "I", .fieldLink RX2 49 "WitchTrialModel" "guard" "I", .methodLink RX2 56 yX2_roleIn, .static yX2_roleIn, .code yX2_roleIn cX2_roleIn 2 (some .int), .methodLink RX2 39 yX2_has, .static yX2_has, .code yX2_has cX2_has 2 (some .boolean)] ++ wsX20)
def wsX2_worlds_r1 : List Cond := [Cond.methodLink RX2 118 yX2_asks, Cond.instanceMethod yX2_asks, Cond.selects RX2 yX2_asks yX2_asks, Cond.initialized RX2, Cond.code yX2_asks cX2_asks 2 (some .boolean), Cond.fieldLink RX2 70 "WitchTrialModel" "phase" "I", Cond.fieldLink RX2 20 "WitchTrialModel" "thrown" "I", Cond.methodLink RX2 112 yX2_isViewer, Cond.instanceMethod yX2_isViewer, Cond.selects RX2 yX2_isViewer yX2_isViewer, Cond.code yX2_isViewer cX2_isViewer 2 (some .boolean), Cond.methodLink RX2 31 yX2_isPlayer, Cond.instanceMethod yX2_isPlayer, Cond.selects RX2 yX2_isPlayer yX2_isPlayer, Cond.code yX2_isPlayer cX2_isPlayer 2 (some .boolean), Cond.fieldLink RX2 24 "WitchTrialModel" "players" "I", Cond.methodLink RX2 27 yX2_in, Cond.static yX2_in, Cond.code yX2_in cX2_in 3 (some .boolean), Cond.methodLink RX2 121 yX2_manyFor, Cond.instanceMethod yX2_manyFor, Cond.selects RX2 yX2_manyFor yX2_manyFor, Cond.code yX2_manyFor cX2_manyFor 4 (some .int), Cond.methodLink RX2 115 yX2_isFor]
def wsX2_worlds_r2 : List Cond := [Cond.instanceMethod yX2_isFor, Cond.selects RX2 yX2_isFor yX2_isFor, Cond.code yX2_isFor cX2_isFor 5 (some .boolean), Cond.fieldLink RX2 7 "WitchTrialModel" "isOpen" "[Z", Cond.fieldLink RX2 43 "WitchTrialModel" "witches" "I", Cond.fieldLink RX2 60 "WitchTrialModel" "looked" "I", Cond.methodLink RX2 52 yX2_truth, Cond.instanceMethod yX2_truth, Cond.selects RX2 yX2_truth yX2_truth, Cond.code yX2_truth cX2_truth 1 (some .int), Cond.fieldLink RX2 46 "WitchTrialModel" "seer" "I", Cond.fieldLink RX2 49 "WitchTrialModel" "guard" "I", Cond.methodLink RX2 56 yX2_roleIn, Cond.static yX2_roleIn, Cond.code yX2_roleIn cX2_roleIn 2 (some .int), Cond.methodLink RX2 39 yX2_has, Cond.static yX2_has, Cond.code yX2_has cX2_has 2 (some .boolean)]
def wsX2_worlds : List Cond := .code yX2_worlds cX2_worlds 2 (some .int) :: ((wsX2_worlds_r1 ++ wsX2_worlds_r2) ++ wsX20)
def wsX2_manyWith : List Cond := .code yX2_manyWith cX2_manyWith 6 (some .int) :: ([.fieldLink RX2 7 "WitchTrialModel" "isOpen" "[Z", .methodLink RX2 56 yX2_roleIn, .static yX2_roleIn, .initialized RX2, .code yX2_roleIn cX2_roleIn 2 (some .int), .methodLink RX2 39 yX2_has, .static yX2_has, .code yX2_has cX2_has 2 (some .boolean), .methodLink RX2 115 yX2_isFor, .instanceMethod yX2_isFor, .selects RX2 yX2_isFor yX2_isFor, .code yX2_isFor cX2_isFor 5 (some .boolean), .fieldLink RX2 43 "WitchTrialModel" "witches" "I", .fieldLink RX2 60 "WitchTrialModel" "looked" "I", .methodLink RX2 52 yX2_truth, .instanceMethod yX2_truth, .selects RX2 yX2_truth yX2_truth, .code yX2_truth cX2_truth 1 (some .int), .fieldLink RX2 46 "WitchTrialModel" "seer" "I", .fieldLink RX2 49 "WitchTrialModel" "guard" "I"] ++ wsX20)
def wsX2_worldsWith_r1 : List Cond := [Cond.fieldLink RX2 70 "WitchTrialModel" "phase" "I", Cond.fieldLink RX2 20 "WitchTrialModel" "thrown" "I", Cond.methodLink RX2 112 yX2_isViewer, Cond.instanceMethod yX2_isViewer, Cond.selects RX2 yX2_isViewer yX2_isViewer, Cond.initialized RX2, Cond.code yX2_isViewer cX2_isViewer 2 (some .boolean), Cond.methodLink RX2 31 yX2_isPlayer, Cond.instanceMethod yX2_isPlayer, Cond.selects RX2 yX2_isPlayer yX2_isPlayer, Cond.code yX2_isPlayer cX2_isPlayer 2 (some .boolean), Cond.fieldLink RX2 24 "WitchTrialModel" "players" "I", Cond.methodLink RX2 27 yX2_in, Cond.static yX2_in, Cond.code yX2_in cX2_in 3 (some .boolean), Cond.methodLink RX2 124 yX2_manyWith, Cond.instanceMethod yX2_manyWith, Cond.selects RX2 yX2_manyWith yX2_manyWith, Cond.code yX2_manyWith cX2_manyWith 6 (some .int), Cond.fieldLink RX2 7 "WitchTrialModel" "isOpen" "[Z", Cond.methodLink RX2 56 yX2_roleIn, Cond.static yX2_roleIn, Cond.code yX2_roleIn cX2_roleIn 2 (some .int), Cond.methodLink RX2 39 yX2_has]
def wsX2_worldsWith_r2 : List Cond := [Cond.static yX2_has, Cond.code yX2_has cX2_has 2 (some .boolean), Cond.methodLink RX2 115 yX2_isFor, Cond.instanceMethod yX2_isFor, Cond.selects RX2 yX2_isFor yX2_isFor, Cond.code yX2_isFor cX2_isFor 5 (some .boolean), Cond.fieldLink RX2 43 "WitchTrialModel" "witches" "I", Cond.fieldLink RX2 60 "WitchTrialModel" "looked" "I", Cond.methodLink RX2 52 yX2_truth, Cond.instanceMethod yX2_truth, Cond.selects RX2 yX2_truth yX2_truth, Cond.code yX2_truth cX2_truth 1 (some .int), Cond.fieldLink RX2 46 "WitchTrialModel" "seer" "I", Cond.fieldLink RX2 49 "WitchTrialModel" "guard" "I"]
def wsX2_worldsWith : List Cond := .code yX2_worldsWith cX2_worldsWith 4 (some .int) :: ((wsX2_worldsWith_r1 ++ wsX2_worldsWith_r2) ++ wsX20)
def wsX2_inSome : List Cond := .code yX2_inSome cX2_inSome 5 (some .int) :: ([.fieldLink RX2 24 "WitchTrialModel" "players" "I", .methodLink RX2 115 yX2_isFor, .instanceMethod yX2_isFor, .selects RX2 yX2_isFor yX2_isFor, .initialized RX2, .code yX2_isFor cX2_isFor 5 (some .boolean), .fieldLink RX2 7 "WitchTrialModel" "isOpen" "[Z", .fieldLink RX2 43 "WitchTrialModel" "witches" "I", .fieldLink RX2 60 "WitchTrialModel" "looked" "I", .methodLink RX2 52 yX2_truth, .instanceMethod yX2_truth, .selects RX2 yX2_truth yX2_truth, .code yX2_truth cX2_truth 1 (some .int), .fieldLink RX2 46 "WitchTrialModel" "seer" "I", .fieldLink RX2 49 "WitchTrialModel" "guard" "I", .methodLink RX2 56 yX2_roleIn, .static yX2_roleIn, .code yX2_roleIn cX2_roleIn 2 (some .int), .methodLink RX2 39 yX2_has, .static yX2_has, .code yX2_has cX2_has 2 (some .boolean)] ++ wsX20)
def wsX2_sureWitches_r1 : List Cond := [Cond.fieldLink RX2 24 "WitchTrialModel" "players" "I", Cond.methodLink RX2 118 yX2_asks, Cond.instanceMethod yX2_asks, Cond.selects RX2 yX2_asks yX2_asks, Cond.initialized RX2, Cond.code yX2_asks cX2_asks 2 (some .boolean), Cond.fieldLink RX2 70 "WitchTrialModel" "phase" "I", Cond.fieldLink RX2 20 "WitchTrialModel" "thrown" "I", Cond.methodLink RX2 112 yX2_isViewer, Cond.instanceMethod yX2_isViewer, Cond.selects RX2 yX2_isViewer yX2_isViewer, Cond.code yX2_isViewer cX2_isViewer 2 (some .boolean), Cond.methodLink RX2 31 yX2_isPlayer, Cond.instanceMethod yX2_isPlayer, Cond.selects RX2 yX2_isPlayer yX2_isPlayer, Cond.code yX2_isPlayer cX2_isPlayer 2 (some .boolean), Cond.methodLink RX2 27 yX2_in, Cond.static yX2_in, Cond.code yX2_in cX2_in 3 (some .boolean), Cond.methodLink RX2 128 yX2_inSome, Cond.instanceMethod yX2_inSome, Cond.selects RX2 yX2_inSome yX2_inSome, Cond.code yX2_inSome cX2_inSome 5 (some .int), Cond.methodLink RX2 115 yX2_isFor]
def wsX2_sureWitches_r2 : List Cond := [Cond.instanceMethod yX2_isFor, Cond.selects RX2 yX2_isFor yX2_isFor, Cond.code yX2_isFor cX2_isFor 5 (some .boolean), Cond.fieldLink RX2 7 "WitchTrialModel" "isOpen" "[Z", Cond.fieldLink RX2 43 "WitchTrialModel" "witches" "I", Cond.fieldLink RX2 60 "WitchTrialModel" "looked" "I", Cond.methodLink RX2 52 yX2_truth, Cond.instanceMethod yX2_truth, Cond.selects RX2 yX2_truth yX2_truth, Cond.code yX2_truth cX2_truth 1 (some .int), Cond.fieldLink RX2 46 "WitchTrialModel" "seer" "I", Cond.fieldLink RX2 49 "WitchTrialModel" "guard" "I", Cond.methodLink RX2 56 yX2_roleIn, Cond.static yX2_roleIn, Cond.code yX2_roleIn cX2_roleIn 2 (some .int), Cond.methodLink RX2 39 yX2_has, Cond.static yX2_has, Cond.code yX2_has cX2_has 2 (some .boolean)]
def wsX2_sureWitches : List Cond := .code yX2_sureWitches cX2_sureWitches 2 (some .int) :: ((wsX2_sureWitches_r1 ++ wsX2_sureWitches_r2) ++ wsX20)
def wsX2_sureHonest_r1 : List Cond := [Cond.fieldLink RX2 24 "WitchTrialModel" "players" "I", Cond.methodLink RX2 118 yX2_asks, Cond.instanceMethod yX2_asks, Cond.selects RX2 yX2_asks yX2_asks, Cond.initialized RX2, Cond.code yX2_asks cX2_asks 2 (some .boolean), Cond.fieldLink RX2 70 "WitchTrialModel" "phase" "I", Cond.fieldLink RX2 20 "WitchTrialModel" "thrown" "I", Cond.methodLink RX2 112 yX2_isViewer, Cond.instanceMethod yX2_isViewer, Cond.selects RX2 yX2_isViewer yX2_isViewer, Cond.code yX2_isViewer cX2_isViewer 2 (some .boolean), Cond.methodLink RX2 31 yX2_isPlayer, Cond.instanceMethod yX2_isPlayer, Cond.selects RX2 yX2_isPlayer yX2_isPlayer, Cond.code yX2_isPlayer cX2_isPlayer 2 (some .boolean), Cond.methodLink RX2 27 yX2_in, Cond.static yX2_in, Cond.code yX2_in cX2_in 3 (some .boolean), Cond.methodLink RX2 128 yX2_inSome, Cond.instanceMethod yX2_inSome, Cond.selects RX2 yX2_inSome yX2_inSome, Cond.code yX2_inSome cX2_inSome 5 (some .int), Cond.methodLink RX2 115 yX2_isFor]
def wsX2_sureHonest_r2 : List Cond := [Cond.instanceMethod yX2_isFor, Cond.selects RX2 yX2_isFor yX2_isFor, Cond.code yX2_isFor cX2_isFor 5 (some .boolean), Cond.fieldLink RX2 7 "WitchTrialModel" "isOpen" "[Z", Cond.fieldLink RX2 43 "WitchTrialModel" "witches" "I", Cond.fieldLink RX2 60 "WitchTrialModel" "looked" "I", Cond.methodLink RX2 52 yX2_truth, Cond.instanceMethod yX2_truth, Cond.selects RX2 yX2_truth yX2_truth, Cond.code yX2_truth cX2_truth 1 (some .int), Cond.fieldLink RX2 46 "WitchTrialModel" "seer" "I", Cond.fieldLink RX2 49 "WitchTrialModel" "guard" "I", Cond.methodLink RX2 56 yX2_roleIn, Cond.static yX2_roleIn, Cond.code yX2_roleIn cX2_roleIn 2 (some .int), Cond.methodLink RX2 39 yX2_has, Cond.static yX2_has, Cond.code yX2_has cX2_has 2 (some .boolean)]
def wsX2_sureHonest : List Cond := .code yX2_sureHonest cX2_sureHonest 2 (some .int) :: ((wsX2_sureHonest_r1 ++ wsX2_sureHonest_r2) ++ wsX20)
def wsX2_witchSets_r1 : List Cond := [Cond.methodLink RX2 118 yX2_asks, Cond.instanceMethod yX2_asks, Cond.selects RX2 yX2_asks yX2_asks, Cond.initialized RX2, Cond.code yX2_asks cX2_asks 2 (some .boolean), Cond.fieldLink RX2 70 "WitchTrialModel" "phase" "I", Cond.fieldLink RX2 20 "WitchTrialModel" "thrown" "I", Cond.methodLink RX2 112 yX2_isViewer, Cond.instanceMethod yX2_isViewer, Cond.selects RX2 yX2_isViewer yX2_isViewer, Cond.code yX2_isViewer cX2_isViewer 2 (some .boolean), Cond.methodLink RX2 31 yX2_isPlayer, Cond.instanceMethod yX2_isPlayer, Cond.selects RX2 yX2_isPlayer yX2_isPlayer, Cond.code yX2_isPlayer cX2_isPlayer 2 (some .boolean), Cond.fieldLink RX2 24 "WitchTrialModel" "players" "I", Cond.methodLink RX2 27 yX2_in, Cond.static yX2_in, Cond.code yX2_in cX2_in 3 (some .boolean), Cond.methodLink RX2 115 yX2_isFor, Cond.instanceMethod yX2_isFor, Cond.selects RX2 yX2_isFor yX2_isFor, Cond.code yX2_isFor cX2_isFor 5 (some .boolean), Cond.fieldLink RX2 7 "WitchTrialModel" "isOpen" "[Z"]
def wsX2_witchSets_r2 : List Cond := [Cond.fieldLink RX2 43 "WitchTrialModel" "witches" "I", Cond.fieldLink RX2 60 "WitchTrialModel" "looked" "I", Cond.methodLink RX2 52 yX2_truth, Cond.instanceMethod yX2_truth, Cond.selects RX2 yX2_truth yX2_truth, Cond.code yX2_truth cX2_truth 1 (some .int), Cond.fieldLink RX2 46 "WitchTrialModel" "seer" "I", Cond.fieldLink RX2 49 "WitchTrialModel" "guard" "I", Cond.methodLink RX2 56 yX2_roleIn, Cond.static yX2_roleIn, Cond.code yX2_roleIn cX2_roleIn 2 (some .int), Cond.methodLink RX2 39 yX2_has, Cond.static yX2_has, Cond.code yX2_has cX2_has 2 (some .boolean)]
def wsX2_witchSets : List Cond := .code yX2_witchSets cX2_witchSets 6 (some .int) :: ((wsX2_witchSets_r1 ++ wsX2_witchSets_r2) ++ wsX20)
def wsX2_laysWitches_r1 : List Cond := [Cond.fieldLink RX2 24 "WitchTrialModel" "players" "I", Cond.fieldLink RX2 17 "WitchTrialModel" "many" "[I", Cond.methodLink RX2 124 yX2_manyWith, Cond.instanceMethod yX2_manyWith, Cond.selects RX2 yX2_manyWith yX2_manyWith, Cond.initialized RX2, Cond.code yX2_manyWith cX2_manyWith 6 (some .int), Cond.fieldLink RX2 7 "WitchTrialModel" "isOpen" "[Z", Cond.methodLink RX2 56 yX2_roleIn, Cond.static yX2_roleIn, Cond.code yX2_roleIn cX2_roleIn 2 (some .int), Cond.methodLink RX2 39 yX2_has, Cond.static yX2_has, Cond.code yX2_has cX2_has 2 (some .boolean), Cond.methodLink RX2 115 yX2_isFor, Cond.instanceMethod yX2_isFor, Cond.selects RX2 yX2_isFor yX2_isFor, Cond.code yX2_isFor cX2_isFor 5 (some .boolean), Cond.fieldLink RX2 43 "WitchTrialModel" "witches" "I", Cond.fieldLink RX2 60 "WitchTrialModel" "looked" "I", Cond.methodLink RX2 52 yX2_truth, Cond.instanceMethod yX2_truth, Cond.selects RX2 yX2_truth yX2_truth, Cond.code yX2_truth cX2_truth 1 (some .int)]
def wsX2_laysWitches_r2 : List Cond := [Cond.fieldLink RX2 46 "WitchTrialModel" "seer" "I", Cond.fieldLink RX2 49 "WitchTrialModel" "guard" "I"]
def wsX2_laysWitches : List Cond := .code yX2_laysWitches cX2_laysWitches 3 none :: ((wsX2_laysWitches_r1 ++ wsX2_laysWitches_r2) ++ wsX20)
def wsX2_suspect_r1 : List Cond := [Cond.fieldLink RX2 24 "WitchTrialModel" "players" "I", Cond.fieldLink RX2 67 "WitchTrialModel" "alive" "I", Cond.fieldLink RX2 17 "WitchTrialModel" "many" "[I", Cond.methodLink RX2 118 yX2_asks, Cond.instanceMethod yX2_asks, Cond.selects RX2 yX2_asks yX2_asks, Cond.initialized RX2, Cond.code yX2_asks cX2_asks 2 (some .boolean), Cond.fieldLink RX2 70 "WitchTrialModel" "phase" "I", Cond.fieldLink RX2 20 "WitchTrialModel" "thrown" "I", Cond.methodLink RX2 112 yX2_isViewer, Cond.instanceMethod yX2_isViewer, Cond.selects RX2 yX2_isViewer yX2_isViewer, Cond.code yX2_isViewer cX2_isViewer 2 (some .boolean), Cond.methodLink RX2 31 yX2_isPlayer, Cond.instanceMethod yX2_isPlayer, Cond.selects RX2 yX2_isPlayer yX2_isPlayer, Cond.code yX2_isPlayer cX2_isPlayer 2 (some .boolean), Cond.methodLink RX2 27 yX2_in, Cond.static yX2_in, Cond.code yX2_in cX2_in 3 (some .boolean), Cond.methodLink RX2 132 yX2_laysWitches, Cond.instanceMethod yX2_laysWitches, Cond.selects RX2 yX2_laysWitches yX2_laysWitches]
def wsX2_suspect_r2 : List Cond := [Cond.code yX2_laysWitches cX2_laysWitches 3 none, Cond.methodLink RX2 124 yX2_manyWith, Cond.instanceMethod yX2_manyWith, Cond.selects RX2 yX2_manyWith yX2_manyWith, Cond.code yX2_manyWith cX2_manyWith 6 (some .int), Cond.fieldLink RX2 7 "WitchTrialModel" "isOpen" "[Z", Cond.methodLink RX2 56 yX2_roleIn, Cond.static yX2_roleIn, Cond.code yX2_roleIn cX2_roleIn 2 (some .int), Cond.methodLink RX2 39 yX2_has, Cond.static yX2_has, Cond.code yX2_has cX2_has 2 (some .boolean), Cond.methodLink RX2 115 yX2_isFor, Cond.instanceMethod yX2_isFor, Cond.selects RX2 yX2_isFor yX2_isFor, Cond.code yX2_isFor cX2_isFor 5 (some .boolean), Cond.fieldLink RX2 43 "WitchTrialModel" "witches" "I", Cond.fieldLink RX2 60 "WitchTrialModel" "looked" "I", Cond.methodLink RX2 52 yX2_truth, Cond.instanceMethod yX2_truth, Cond.selects RX2 yX2_truth yX2_truth, Cond.code yX2_truth cX2_truth 1 (some .int), Cond.fieldLink RX2 46 "WitchTrialModel" "seer" "I", Cond.fieldLink RX2 49 "WitchTrialModel" "guard" "I"]
def wsX2_suspect : List Cond := .code yX2_suspect cX2_suspect 4 (some .int) :: ((wsX2_suspect_r1 ++ wsX2_suspect_r2) ++ wsX20)
def wsX2_bestLook_r1 : List Cond := [Cond.fieldLink RX2 46 "WitchTrialModel" "seer" "I", Cond.fieldLink RX2 24 "WitchTrialModel" "players" "I", Cond.fieldLink RX2 17 "WitchTrialModel" "many" "[I", Cond.fieldLink RX2 67 "WitchTrialModel" "alive" "I", Cond.methodLink RX2 108 yX2_isGame, Cond.instanceMethod yX2_isGame, Cond.selects RX2 yX2_isGame yX2_isGame, Cond.initialized RX2, Cond.code yX2_isGame cX2_isGame 1 (some .boolean), Cond.fieldLink RX2 70 "WitchTrialModel" "phase" "I", Cond.fieldLink RX2 20 "WitchTrialModel" "thrown" "I", Cond.methodLink RX2 132 yX2_laysWitches, Cond.instanceMethod yX2_laysWitches, Cond.selects RX2 yX2_laysWitches yX2_laysWitches, Cond.code yX2_laysWitches cX2_laysWitches 3 none, Cond.methodLink RX2 124 yX2_manyWith, Cond.instanceMethod yX2_manyWith, Cond.selects RX2 yX2_manyWith yX2_manyWith, Cond.code yX2_manyWith cX2_manyWith 6 (some .int), Cond.fieldLink RX2 7 "WitchTrialModel" "isOpen" "[Z", Cond.methodLink RX2 56 yX2_roleIn, Cond.static yX2_roleIn, Cond.code yX2_roleIn cX2_roleIn 2 (some .int), Cond.methodLink RX2 39 yX2_has]
def wsX2_bestLook_r2 : List Cond := [Cond.static yX2_has, Cond.code yX2_has cX2_has 2 (some .boolean), Cond.methodLink RX2 115 yX2_isFor, Cond.instanceMethod yX2_isFor, Cond.selects RX2 yX2_isFor yX2_isFor, Cond.code yX2_isFor cX2_isFor 5 (some .boolean), Cond.fieldLink RX2 43 "WitchTrialModel" "witches" "I", Cond.fieldLink RX2 60 "WitchTrialModel" "looked" "I", Cond.methodLink RX2 52 yX2_truth, Cond.instanceMethod yX2_truth, Cond.selects RX2 yX2_truth yX2_truth, Cond.code yX2_truth cX2_truth 1 (some .int), Cond.fieldLink RX2 49 "WitchTrialModel" "guard" "I", Cond.methodLink RX2 121 yX2_manyFor, Cond.instanceMethod yX2_manyFor, Cond.selects RX2 yX2_manyFor yX2_manyFor, Cond.code yX2_manyFor cX2_manyFor 4 (some .int)]
def wsX2_bestLook : List Cond := .code yX2_bestLook cX2_bestLook 6 (some .int) :: ((wsX2_bestLook_r1 ++ wsX2_bestLook_r2) ++ wsX20)
def wsX2_isPossible_r1 : List Cond := [Cond.fieldLink RX2 70 "WitchTrialModel" "phase" "I", Cond.fieldLink RX2 20 "WitchTrialModel" "thrown" "I", Cond.fieldLink RX2 24 "WitchTrialModel" "players" "I", Cond.methodLink RX2 112 yX2_isViewer, Cond.instanceMethod yX2_isViewer, Cond.selects RX2 yX2_isViewer yX2_isViewer, Cond.initialized RX2, Cond.code yX2_isViewer cX2_isViewer 2 (some .boolean), Cond.methodLink RX2 31 yX2_isPlayer, Cond.instanceMethod yX2_isPlayer, Cond.selects RX2 yX2_isPlayer yX2_isPlayer, Cond.code yX2_isPlayer cX2_isPlayer 2 (some .boolean), Cond.methodLink RX2 27 yX2_in, Cond.static yX2_in, Cond.code yX2_in cX2_in 3 (some .boolean), Cond.methodLink RX2 115 yX2_isFor, Cond.instanceMethod yX2_isFor, Cond.selects RX2 yX2_isFor yX2_isFor, Cond.code yX2_isFor cX2_isFor 5 (some .boolean), Cond.fieldLink RX2 7 "WitchTrialModel" "isOpen" "[Z", Cond.fieldLink RX2 43 "WitchTrialModel" "witches" "I", Cond.fieldLink RX2 60 "WitchTrialModel" "looked" "I", Cond.methodLink RX2 52 yX2_truth, Cond.instanceMethod yX2_truth]
def wsX2_isPossible_r2 : List Cond := [Cond.selects RX2 yX2_truth yX2_truth, Cond.code yX2_truth cX2_truth 1 (some .int), Cond.fieldLink RX2 46 "WitchTrialModel" "seer" "I", Cond.fieldLink RX2 49 "WitchTrialModel" "guard" "I", Cond.methodLink RX2 56 yX2_roleIn, Cond.static yX2_roleIn, Cond.code yX2_roleIn cX2_roleIn 2 (some .int), Cond.methodLink RX2 39 yX2_has, Cond.static yX2_has, Cond.code yX2_has cX2_has 2 (some .boolean)]
def wsX2_isPossible : List Cond := .code yX2_isPossible cX2_isPossible 6 (some .boolean) :: ((wsX2_isPossible_r1 ++ wsX2_isPossible_r2) ++ wsX20)
def wsJ9_max_7cf53 : List Cond := .code yJ9_max_7cf53 cJ9_max_7cf53 2 (some .int) :: ([])
def wsL_start_r1 : List Cond := [Cond.classLink RL 13 "java/lang/IllegalArgumentException", Cond.methodLink RL 7 yX1_start, Cond.instanceMethod yX1_start, Cond.selects RX1 yX1_start yX1_start, Cond.initialized RX1, Cond.code yX1_start cX1_start 5 (some .int), Cond.classLink RX1 40 "java/lang/IllegalArgumentException", Cond.initialized "java/lang/IllegalArgumentException", Cond.fieldLink RX1 47 "WitchTrial" "playerCount" "I", Cond.fieldLink RX1 50 "WitchTrial" "witchSet" "I", Cond.fieldLink RX1 53 "WitchTrial" "seerPlayer" "I", Cond.fieldLink RX1 56 "WitchTrial" "guardPlayer" "I", Cond.fieldLink RX1 63 "WitchTrial" "aliveSet" "I", Cond.fieldLink RX1 66 "WitchTrial" "lookedAtSet" "I", Cond.fieldLink RX1 69 "WitchTrial" "dayNumber" "I", Cond.fieldLink RX1 20 "WitchTrial" "phase" "I", Cond.fieldLink RX1 33 "WitchTrial" "protectedLastNight" "I", Cond.fieldLink RX1 12 "WitchTrial" "book" "LWitchTrial$Book;", Cond.methodLink RX1 36 yX1_isDeal, Cond.static yX1_isDeal, Cond.code yX1_isDeal cX1_isDeal 4 (some .boolean), Cond.methodLink RX1 59 yX1_everyone, Cond.static yX1_everyone, Cond.code yX1_everyone cX1_everyone 1 (some .int)]
def wsL_start_r2 : List Cond := [Cond.methodLink RX1 185 yJ6_bitCount_0f7a4, Cond.static yJ6_bitCount_0f7a4, Cond.initialized RJ6, Cond.code yJ6_bitCount_0f7a4 cJ6_bitCount_0f7a4 1 (some .int), Cond.constant RJ6 265 (1431655765), Cond.constant RJ6 266 (858993459), Cond.constant RJ6 267 (252645135), Cond.methodLink RX1 190 yX1_isHonestIn, Cond.static yX1_isHonestIn, Cond.code yX1_isHonestIn cX1_isHonestIn 3 (some .boolean), Cond.methodLink RX1 194 yX1_setOf, Cond.static yX1_setOf, Cond.code yX1_setOf cX1_setOf 1 (some .int), Cond.methodLink RX1 72 yX1_forgetVotes, Cond.instanceMethod yX1_forgetVotes, Cond.selects RX1 yX1_forgetVotes yX1_forgetVotes, Cond.code yX1_forgetVotes cX1_forgetVotes 1 none, Cond.fieldLink RX1 16 "WitchTrial" "voteOf" "[I", Cond.methodLink RX1 210 yJ7_fill_53178, Cond.static yJ7_fill_53178, Cond.initialized RJ7, Cond.code yJ7_fill_53178 cJ7_fill_53178 4 none, Cond.methodLink RX1 75 yX1_forgetChoices, Cond.instanceMethod yX1_forgetChoices]
def wsL_start_r3 : List Cond := [Cond.selects RX1 yX1_forgetChoices yX1_forgetChoices, Cond.code yX1_forgetChoices cX1_forgetChoices 1 none, Cond.fieldLink RX1 24 "WitchTrial" "protectChoice" "I", Cond.fieldLink RX1 27 "WitchTrial" "attackChoice" "I", Cond.fieldLink RX1 30 "WitchTrial" "lookChoice" "I", Cond.methodLink RX1 78 yX1_worldOf, Cond.static yX1_worldOf, Cond.code yX1_worldOf cX1_worldOf 3 (some .int), Cond.instanceMethod yX0_open, Cond.initialized RX0, Cond.selects RX0 yX0_open yX0_open, Cond.code yX0_open cX0_open 6 none, Cond.fieldLink RX0 15 "WitchTrial$Book" "truth" "I", Cond.fieldLink RX0 11 "WitchTrial$Book" "pages" "[I", Cond.methodLink RX0 19 yJ7_fill_53178, Cond.static yX1_witchesOf, Cond.code yX1_witchesOf cX1_witchesOf 1 (some .int), Cond.methodLink RX0 29 yJ6_bitCount_0f7a4, Cond.methodLink RX0 37 yX0_addWorlds, Cond.instanceMethod yX0_addWorlds, Cond.selects RX0 yX0_addWorlds yX0_addWorlds, Cond.code yX0_addWorlds cX0_addWorlds 8 (some .int), Cond.methodLink RX1 86 yX1_knownBits, Cond.instanceMethod yX1_knownBits]
def wsL_start_r4 : List Cond := [Cond.selects RX1 yX1_knownBits yX1_knownBits, Cond.code yX1_knownBits cX1_knownBits 3 (some .int), Cond.methodLink RX1 219 yX1_roleBits, Cond.static yX1_roleBits, Cond.code yX1_roleBits cX1_roleBits 1 (some .int), Cond.methodLink RX1 135 yX1_isWitch, Cond.instanceMethod yX1_isWitch, Cond.selects RX1 yX1_isWitch yX1_isWitch, Cond.code yX1_isWitch cX1_isWitch 2 (some .boolean), Cond.instanceMethod yX0_count, Cond.selects RX0 yX0_count yX0_count, Cond.code yX0_count cX0_count 4 (some .int), Cond.methodLink RX0 55 yX0_agrees, Cond.instanceMethod yX0_agrees, Cond.selects RX0 yX0_agrees yX0_agrees, Cond.code yX0_agrees cX0_agrees 3 (some .boolean)]
def wsL_start : List Cond := .codeWith yL_start cL_start 7 (some .int) [(0, 14, 17, 13)] :: ((wsL_start_r1 ++ (wsL_start_r2 ++ (wsL_start_r3 ++ wsL_start_r4))) ++ wsX10 ++ wsX00 ++ (vx_atS RX1 44 "java/lang/IllegalArgumentException" ["java/lang/RuntimeException", "java/lang/Exception"]).filter goodWord)
def wsL_claim_r1 : List Cond := [Cond.classLink RL 19 "java/lang/IllegalStateException", Cond.classLink RL 21 "java/lang/IndexOutOfBoundsException", Cond.classLink RL 13 "java/lang/IllegalArgumentException", Cond.classLink RL 23 "java/util/NoSuchElementException", Cond.methodLink RL 15 yX1_claim, Cond.instanceMethod yX1_claim, Cond.selects RX1 yX1_claim yX1_claim, Cond.initialized RX1, Cond.code yX1_claim cX1_claim 4 (some .int), Cond.classLink RX1 40 "java/lang/IllegalArgumentException", Cond.initialized "java/lang/IllegalArgumentException", Cond.methodLink RX1 92 yX1_requireGame, Cond.instanceMethod yX1_requireGame, Cond.selects RX1 yX1_requireGame yX1_requireGame, Cond.code yX1_requireGame cX1_requireGame 1 none, Cond.classLink RX1 171 "java/lang/IllegalStateException", Cond.initialized "java/lang/IllegalStateException", Cond.fieldLink RX1 20 "WitchTrial" "phase" "I", Cond.methodLink RX1 95 yX1_requirePlayer, Cond.instanceMethod yX1_requirePlayer, Cond.selects RX1 yX1_requirePlayer yX1_requirePlayer, Cond.code yX1_requirePlayer cX1_requirePlayer 2 none, Cond.classLink RX1 180 "java/lang/IndexOutOfBoundsException", Cond.initialized "java/lang/IndexOutOfBoundsException"]
def wsL_claim_r2 : List Cond := [Cond.fieldLink RX1 47 "WitchTrial" "playerCount" "I", Cond.methodLink RX1 101 yX1_claimedBits, Cond.static yX1_claimedBits, Cond.code yX1_claimedBits cX1_claimedBits 2 (some .int), Cond.methodLink RX1 216 yX1_bitOfRole, Cond.static yX1_bitOfRole, Cond.code yX1_bitOfRole cX1_bitOfRole 2 (some .int), Cond.methodLink RX1 194 yX1_setOf, Cond.static yX1_setOf, Cond.code yX1_setOf cX1_setOf 1 (some .int), Cond.methodLink RX1 105 yX1_makeClaim, Cond.instanceMethod yX1_makeClaim, Cond.selects RX1 yX1_makeClaim yX1_makeClaim, Cond.code yX1_makeClaim cX1_makeClaim 4 (some .int), Cond.classLink RX1 201 "java/util/NoSuchElementException", Cond.initialized "java/util/NoSuchElementException", Cond.fieldLink RX1 12 "WitchTrial" "book" "LWitchTrial$Book;", Cond.methodLink RX1 114 yX1_isAlive, Cond.instanceMethod yX1_isAlive, Cond.selects RX1 yX1_isAlive yX1_isAlive, Cond.code yX1_isAlive cX1_isAlive 2 (some .boolean), Cond.fieldLink RX1 63 "WitchTrial" "aliveSet" "I", Cond.instanceMethod yX0_allowsClaim, Cond.initialized RX0]
def wsL_claim_r3 : List Cond := [Cond.selects RX0 yX0_allowsClaim yX0_allowsClaim, Cond.code yX0_allowsClaim cX0_allowsClaim 4 (some .boolean), Cond.fieldLink RX0 15 "WitchTrial$Book" "truth" "I", Cond.methodLink RX0 51 yX0_agreesWithClaim, Cond.static yX0_agreesWithClaim, Cond.code yX0_agreesWithClaim cX0_agreesWithClaim 4 (some .boolean), Cond.instanceMethod yX0_keepClaim, Cond.selects RX0 yX0_keepClaim yX0_keepClaim, Cond.code yX0_keepClaim cX0_keepClaim 7 none, Cond.fieldLink RX0 11 "WitchTrial$Book" "pages" "[I", Cond.methodLink RX1 86 yX1_knownBits, Cond.instanceMethod yX1_knownBits, Cond.selects RX1 yX1_knownBits yX1_knownBits, Cond.code yX1_knownBits cX1_knownBits 3 (some .int), Cond.fieldLink RX1 53 "WitchTrial" "seerPlayer" "I", Cond.fieldLink RX1 66 "WitchTrial" "lookedAtSet" "I", Cond.methodLink RX1 59 yX1_everyone, Cond.static yX1_everyone, Cond.code yX1_everyone cX1_everyone 1 (some .int), Cond.methodLink RX1 219 yX1_roleBits, Cond.static yX1_roleBits, Cond.code yX1_roleBits cX1_roleBits 1 (some .int), Cond.methodLink RX1 135 yX1_isWitch, Cond.instanceMethod yX1_isWitch]
def wsL_claim_r4 : List Cond := [Cond.selects RX1 yX1_isWitch yX1_isWitch, Cond.code yX1_isWitch cX1_isWitch 2 (some .boolean), Cond.fieldLink RX1 50 "WitchTrial" "witchSet" "I", Cond.instanceMethod yX0_count, Cond.selects RX0 yX0_count yX0_count, Cond.code yX0_count cX0_count 4 (some .int), Cond.methodLink RX0 55 yX0_agrees, Cond.instanceMethod yX0_agrees, Cond.selects RX0 yX0_agrees yX0_agrees, Cond.code yX0_agrees cX0_agrees 3 (some .boolean)]
def wsL_claim : List Cond := .codeWith yL_claim cL_claim 6 (some .int) [(0, 12, 15, 19), (0, 12, 19, 21), (0, 12, 23, 13), (0, 12, 27, 23)] :: ((wsL_claim_r1 ++ (wsL_claim_r2 ++ (wsL_claim_r3 ++ wsL_claim_r4))) ++ wsX10 ++ wsX00 ++ (vx_atS RX1 44 "java/lang/IllegalArgumentException" ["java/lang/RuntimeException", "java/lang/Exception"]).filter goodWord ++ (vx_atS RX1 175 "java/lang/IllegalStateException" ["java/lang/RuntimeException", "java/lang/Exception"]).filter goodWord ++ (vx_atS RX1 184 "java/lang/IndexOutOfBoundsException" ["java/lang/RuntimeException", "java/lang/Exception"]).filter goodWord ++ (vx_atS RX1 205 "java/util/NoSuchElementException" ["java/lang/RuntimeException", "java/lang/Exception"]).filter goodWord)
def wsL_claimAmong_r1 : List Cond := [Cond.classLink RL 19 "java/lang/IllegalStateException", Cond.classLink RL 21 "java/lang/IndexOutOfBoundsException", Cond.classLink RL 13 "java/lang/IllegalArgumentException", Cond.classLink RL 23 "java/util/NoSuchElementException", Cond.methodLink RL 25 yX1_claimAmong, Cond.instanceMethod yX1_claimAmong, Cond.selects RX1 yX1_claimAmong yX1_claimAmong, Cond.initialized RX1, Cond.code yX1_claimAmong cX1_claimAmong 3 (some .int), Cond.classLink RX1 40 "java/lang/IllegalArgumentException", Cond.initialized "java/lang/IllegalArgumentException", Cond.fieldLink RX1 47 "WitchTrial" "playerCount" "I", Cond.methodLink RX1 92 yX1_requireGame, Cond.instanceMethod yX1_requireGame, Cond.selects RX1 yX1_requireGame yX1_requireGame, Cond.code yX1_requireGame cX1_requireGame 1 none, Cond.classLink RX1 171 "java/lang/IllegalStateException", Cond.initialized "java/lang/IllegalStateException", Cond.fieldLink RX1 20 "WitchTrial" "phase" "I", Cond.methodLink RX1 95 yX1_requirePlayer, Cond.instanceMethod yX1_requirePlayer, Cond.selects RX1 yX1_requirePlayer yX1_requirePlayer, Cond.code yX1_requirePlayer cX1_requirePlayer 2 none, Cond.classLink RX1 180 "java/lang/IndexOutOfBoundsException"]
def wsL_claimAmong_r2 : List Cond := [Cond.initialized "java/lang/IndexOutOfBoundsException", Cond.methodLink RX1 59 yX1_everyone, Cond.static yX1_everyone, Cond.code yX1_everyone cX1_everyone 1 (some .int), Cond.methodLink RX1 105 yX1_makeClaim, Cond.instanceMethod yX1_makeClaim, Cond.selects RX1 yX1_makeClaim yX1_makeClaim, Cond.code yX1_makeClaim cX1_makeClaim 4 (some .int), Cond.classLink RX1 201 "java/util/NoSuchElementException", Cond.initialized "java/util/NoSuchElementException", Cond.fieldLink RX1 12 "WitchTrial" "book" "LWitchTrial$Book;", Cond.methodLink RX1 114 yX1_isAlive, Cond.instanceMethod yX1_isAlive, Cond.selects RX1 yX1_isAlive yX1_isAlive, Cond.code yX1_isAlive cX1_isAlive 2 (some .boolean), Cond.fieldLink RX1 63 "WitchTrial" "aliveSet" "I", Cond.methodLink RX1 194 yX1_setOf, Cond.static yX1_setOf, Cond.code yX1_setOf cX1_setOf 1 (some .int), Cond.instanceMethod yX0_allowsClaim, Cond.initialized RX0, Cond.selects RX0 yX0_allowsClaim yX0_allowsClaim, Cond.code yX0_allowsClaim cX0_allowsClaim 4 (some .boolean), Cond.fieldLink RX0 15 "WitchTrial$Book" "truth" "I"]
def wsL_claimAmong_r3 : List Cond := [Cond.methodLink RX0 51 yX0_agreesWithClaim, Cond.static yX0_agreesWithClaim, Cond.code yX0_agreesWithClaim cX0_agreesWithClaim 4 (some .boolean), Cond.instanceMethod yX0_keepClaim, Cond.selects RX0 yX0_keepClaim yX0_keepClaim, Cond.code yX0_keepClaim cX0_keepClaim 7 none, Cond.fieldLink RX0 11 "WitchTrial$Book" "pages" "[I", Cond.methodLink RX1 86 yX1_knownBits, Cond.instanceMethod yX1_knownBits, Cond.selects RX1 yX1_knownBits yX1_knownBits, Cond.code yX1_knownBits cX1_knownBits 3 (some .int), Cond.fieldLink RX1 53 "WitchTrial" "seerPlayer" "I", Cond.fieldLink RX1 66 "WitchTrial" "lookedAtSet" "I", Cond.methodLink RX1 219 yX1_roleBits, Cond.static yX1_roleBits, Cond.code yX1_roleBits cX1_roleBits 1 (some .int), Cond.methodLink RX1 135 yX1_isWitch, Cond.instanceMethod yX1_isWitch, Cond.selects RX1 yX1_isWitch yX1_isWitch, Cond.code yX1_isWitch cX1_isWitch 2 (some .boolean), Cond.fieldLink RX1 50 "WitchTrial" "witchSet" "I", Cond.instanceMethod yX0_count, Cond.selects RX0 yX0_count yX0_count, Cond.code yX0_count cX0_count 4 (some .int)]
def wsL_claimAmong_r4 : List Cond := [Cond.methodLink RX0 55 yX0_agrees, Cond.instanceMethod yX0_agrees, Cond.selects RX0 yX0_agrees yX0_agrees, Cond.code yX0_agrees cX0_agrees 3 (some .boolean)]
def wsL_claimAmong : List Cond := .codeWith yL_claimAmong cL_claimAmong 5 (some .int) [(0, 10, 13, 19), (0, 10, 17, 21), (0, 10, 21, 13), (0, 10, 25, 23)] :: ((wsL_claimAmong_r1 ++ (wsL_claimAmong_r2 ++ (wsL_claimAmong_r3 ++ wsL_claimAmong_r4))) ++ wsX10 ++ wsX00 ++ (vx_atS RX1 44 "java/lang/IllegalArgumentException" ["java/lang/RuntimeException", "java/lang/Exception"]).filter goodWord ++ (vx_atS RX1 175 "java/lang/IllegalStateException" ["java/lang/RuntimeException", "java/lang/Exception"]).filter goodWord ++ (vx_atS RX1 184 "java/lang/IndexOutOfBoundsException" ["java/lang/RuntimeException", "java/lang/Exception"]).filter goodWord ++ (vx_atS RX1 205 "java/util/NoSuchElementException" ["java/lang/RuntimeException", "java/lang/Exception"]).filter goodWord)
def wsL_vote_r1 : List Cond := [Cond.classLink RL 19 "java/lang/IllegalStateException", Cond.classLink RL 21 "java/lang/IndexOutOfBoundsException", Cond.classLink RL 13 "java/lang/IllegalArgumentException", Cond.methodLink RL 29 yX1_vote, Cond.instanceMethod yX1_vote, Cond.selects RX1 yX1_vote yX1_vote, Cond.initialized RX1, Cond.code yX1_vote cX1_vote 3 (some .int), Cond.classLink RX1 40 "java/lang/IllegalArgumentException", Cond.initialized "java/lang/IllegalArgumentException", Cond.fieldLink RX1 16 "WitchTrial" "voteOf" "[I", Cond.methodLink RX1 111 yX1_requirePhase, Cond.instanceMethod yX1_requirePhase, Cond.selects RX1 yX1_requirePhase yX1_requirePhase, Cond.code yX1_requirePhase cX1_requirePhase 2 none, Cond.classLink RX1 171 "java/lang/IllegalStateException", Cond.initialized "java/lang/IllegalStateException", Cond.fieldLink RX1 20 "WitchTrial" "phase" "I", Cond.methodLink RX1 95 yX1_requirePlayer, Cond.instanceMethod yX1_requirePlayer, Cond.selects RX1 yX1_requirePlayer yX1_requirePlayer, Cond.code yX1_requirePlayer cX1_requirePlayer 2 none, Cond.classLink RX1 180 "java/lang/IndexOutOfBoundsException", Cond.initialized "java/lang/IndexOutOfBoundsException"]
def wsL_vote_r2 : List Cond := [Cond.fieldLink RX1 47 "WitchTrial" "playerCount" "I", Cond.methodLink RX1 114 yX1_isAlive, Cond.instanceMethod yX1_isAlive, Cond.selects RX1 yX1_isAlive yX1_isAlive, Cond.code yX1_isAlive cX1_isAlive 2 (some .boolean), Cond.fieldLink RX1 63 "WitchTrial" "aliveSet" "I", Cond.methodLink RX1 194 yX1_setOf, Cond.static yX1_setOf, Cond.code yX1_setOf cX1_setOf 1 (some .int), Cond.methodLink RX1 120 yX1_countVotes, Cond.instanceMethod yX1_countVotes, Cond.selects RX1 yX1_countVotes yX1_countVotes, Cond.code yX1_countVotes cX1_countVotes 7 (some .int)]
def wsL_vote : List Cond := .codeWith yL_vote cL_vote 5 (some .int) [(0, 10, 13, 19), (0, 10, 17, 21), (0, 10, 21, 13)] :: ((wsL_vote_r1 ++ wsL_vote_r2) ++ wsX10 ++ (vx_atS RX1 44 "java/lang/IllegalArgumentException" ["java/lang/RuntimeException", "java/lang/Exception"]).filter goodWord ++ (vx_atS RX1 175 "java/lang/IllegalStateException" ["java/lang/RuntimeException", "java/lang/Exception"]).filter goodWord ++ (vx_atS RX1 184 "java/lang/IndexOutOfBoundsException" ["java/lang/RuntimeException", "java/lang/Exception"]).filter goodWord)
def wsL_closeVote_r1 : List Cond := [Cond.classLink RL 19 "java/lang/IllegalStateException", Cond.methodLink RL 32 yX1_closeVote, Cond.instanceMethod yX1_closeVote, Cond.selects RX1 yX1_closeVote yX1_closeVote, Cond.initialized RX1, Cond.code yX1_closeVote cX1_closeVote 2 (some .int), Cond.fieldLink RX1 20 "WitchTrial" "phase" "I", Cond.methodLink RX1 111 yX1_requirePhase, Cond.instanceMethod yX1_requirePhase, Cond.selects RX1 yX1_requirePhase yX1_requirePhase, Cond.code yX1_requirePhase cX1_requirePhase 2 none, Cond.classLink RX1 171 "java/lang/IllegalStateException", Cond.initialized "java/lang/IllegalStateException", Cond.methodLink RX1 123 yX1_playerWithMostVotes, Cond.instanceMethod yX1_playerWithMostVotes, Cond.selects RX1 yX1_playerWithMostVotes yX1_playerWithMostVotes, Cond.code yX1_playerWithMostVotes cX1_playerWithMostVotes 5 (some .int), Cond.fieldLink RX1 47 "WitchTrial" "playerCount" "I", Cond.methodLink RX1 120 yX1_countVotes, Cond.instanceMethod yX1_countVotes, Cond.selects RX1 yX1_countVotes yX1_countVotes, Cond.code yX1_countVotes cX1_countVotes 7 (some .int), Cond.fieldLink RX1 16 "WitchTrial" "voteOf" "[I", Cond.methodLink RX1 72 yX1_forgetVotes]
def wsL_closeVote_r2 : List Cond := [Cond.instanceMethod yX1_forgetVotes, Cond.selects RX1 yX1_forgetVotes yX1_forgetVotes, Cond.code yX1_forgetVotes cX1_forgetVotes 1 none, Cond.methodLink RX1 210 yJ7_fill_53178, Cond.static yJ7_fill_53178, Cond.initialized RJ7, Cond.code yJ7_fill_53178 cJ7_fill_53178 4 none, Cond.methodLink RX1 127 yX1_die, Cond.instanceMethod yX1_die, Cond.selects RX1 yX1_die yX1_die, Cond.code yX1_die cX1_die 4 none, Cond.fieldLink RX1 63 "WitchTrial" "aliveSet" "I", Cond.fieldLink RX1 50 "WitchTrial" "witchSet" "I", Cond.methodLink RX1 194 yX1_setOf, Cond.static yX1_setOf, Cond.code yX1_setOf cX1_setOf 1 (some .int), Cond.methodLink RX1 185 yJ6_bitCount_0f7a4, Cond.static yJ6_bitCount_0f7a4, Cond.initialized RJ6, Cond.code yJ6_bitCount_0f7a4 cJ6_bitCount_0f7a4 1 (some .int), Cond.constant RJ6 265 (1431655765), Cond.constant RJ6 266 (858993459), Cond.constant RJ6 267 (252645135)]
def wsL_closeVote : List Cond := .codeWith yL_closeVote cL_closeVote 3 (some .int) [(0, 8, 11, 19)] :: ((wsL_closeVote_r1 ++ wsL_closeVote_r2) ++ wsX10 ++ (vx_atS RX1 175 "java/lang/IllegalStateException" ["java/lang/RuntimeException", "java/lang/Exception"]).filter goodWord)
def wsL_protect_r1 : List Cond := [Cond.classLink RL 19 "java/lang/IllegalStateException", Cond.classLink RL 21 "java/lang/IndexOutOfBoundsException", Cond.classLink RL 13 "java/lang/IllegalArgumentException", Cond.methodLink RL 36 yX1_protect, Cond.instanceMethod yX1_protect, Cond.selects RX1 yX1_protect yX1_protect, Cond.initialized RX1, Cond.code yX1_protect cX1_protect 3 (some .int), Cond.classLink RX1 40 "java/lang/IllegalArgumentException", Cond.initialized "java/lang/IllegalArgumentException", Cond.fieldLink RX1 56 "WitchTrial" "guardPlayer" "I", Cond.fieldLink RX1 33 "WitchTrial" "protectedLastNight" "I", Cond.fieldLink RX1 24 "WitchTrial" "protectChoice" "I", Cond.methodLink RX1 111 yX1_requirePhase, Cond.instanceMethod yX1_requirePhase, Cond.selects RX1 yX1_requirePhase yX1_requirePhase, Cond.code yX1_requirePhase cX1_requirePhase 2 none, Cond.classLink RX1 171 "java/lang/IllegalStateException", Cond.initialized "java/lang/IllegalStateException", Cond.fieldLink RX1 20 "WitchTrial" "phase" "I", Cond.methodLink RX1 130 yX1_requireToLive, Cond.instanceMethod yX1_requireToLive, Cond.selects RX1 yX1_requireToLive yX1_requireToLive, Cond.code yX1_requireToLive cX1_requireToLive 2 none]
def wsL_protect_r2 : List Cond := [Cond.methodLink RX1 114 yX1_isAlive, Cond.instanceMethod yX1_isAlive, Cond.selects RX1 yX1_isAlive yX1_isAlive, Cond.code yX1_isAlive cX1_isAlive 2 (some .boolean), Cond.fieldLink RX1 63 "WitchTrial" "aliveSet" "I", Cond.methodLink RX1 194 yX1_setOf, Cond.static yX1_setOf, Cond.code yX1_setOf cX1_setOf 1 (some .int), Cond.methodLink RX1 95 yX1_requirePlayer, Cond.instanceMethod yX1_requirePlayer, Cond.selects RX1 yX1_requirePlayer yX1_requirePlayer, Cond.code yX1_requirePlayer cX1_requirePlayer 2 none, Cond.classLink RX1 180 "java/lang/IndexOutOfBoundsException", Cond.initialized "java/lang/IndexOutOfBoundsException", Cond.fieldLink RX1 47 "WitchTrial" "playerCount" "I"]
def wsL_protect : List Cond := .codeWith yL_protect cL_protect 4 (some .int) [(0, 9, 12, 19), (0, 9, 15, 21), (0, 9, 18, 13)] :: ((wsL_protect_r1 ++ wsL_protect_r2) ++ wsX10 ++ (vx_atS RX1 44 "java/lang/IllegalArgumentException" ["java/lang/RuntimeException", "java/lang/Exception"]).filter goodWord ++ (vx_atS RX1 175 "java/lang/IllegalStateException" ["java/lang/RuntimeException", "java/lang/Exception"]).filter goodWord ++ (vx_atS RX1 184 "java/lang/IndexOutOfBoundsException" ["java/lang/RuntimeException", "java/lang/Exception"]).filter goodWord)
def wsL_attack_r1 : List Cond := [Cond.classLink RL 19 "java/lang/IllegalStateException", Cond.classLink RL 21 "java/lang/IndexOutOfBoundsException", Cond.classLink RL 13 "java/lang/IllegalArgumentException", Cond.methodLink RL 40 yX1_attack, Cond.instanceMethod yX1_attack, Cond.selects RX1 yX1_attack yX1_attack, Cond.initialized RX1, Cond.code yX1_attack cX1_attack 3 (some .int), Cond.classLink RX1 40 "java/lang/IllegalArgumentException", Cond.initialized "java/lang/IllegalArgumentException", Cond.fieldLink RX1 27 "WitchTrial" "attackChoice" "I", Cond.methodLink RX1 111 yX1_requirePhase, Cond.instanceMethod yX1_requirePhase, Cond.selects RX1 yX1_requirePhase yX1_requirePhase, Cond.code yX1_requirePhase cX1_requirePhase 2 none, Cond.classLink RX1 171 "java/lang/IllegalStateException", Cond.initialized "java/lang/IllegalStateException", Cond.fieldLink RX1 20 "WitchTrial" "phase" "I", Cond.methodLink RX1 95 yX1_requirePlayer, Cond.instanceMethod yX1_requirePlayer, Cond.selects RX1 yX1_requirePlayer yX1_requirePlayer, Cond.code yX1_requirePlayer cX1_requirePlayer 2 none, Cond.classLink RX1 180 "java/lang/IndexOutOfBoundsException", Cond.initialized "java/lang/IndexOutOfBoundsException"]
def wsL_attack_r2 : List Cond := [Cond.fieldLink RX1 47 "WitchTrial" "playerCount" "I", Cond.methodLink RX1 114 yX1_isAlive, Cond.instanceMethod yX1_isAlive, Cond.selects RX1 yX1_isAlive yX1_isAlive, Cond.code yX1_isAlive cX1_isAlive 2 (some .boolean), Cond.fieldLink RX1 63 "WitchTrial" "aliveSet" "I", Cond.methodLink RX1 194 yX1_setOf, Cond.static yX1_setOf, Cond.code yX1_setOf cX1_setOf 1 (some .int), Cond.methodLink RX1 135 yX1_isWitch, Cond.instanceMethod yX1_isWitch, Cond.selects RX1 yX1_isWitch yX1_isWitch, Cond.code yX1_isWitch cX1_isWitch 2 (some .boolean), Cond.fieldLink RX1 50 "WitchTrial" "witchSet" "I"]
def wsL_attack : List Cond := .codeWith yL_attack cL_attack 4 (some .int) [(0, 9, 12, 19), (0, 9, 15, 21), (0, 9, 18, 13)] :: ((wsL_attack_r1 ++ wsL_attack_r2) ++ wsX10 ++ (vx_atS RX1 44 "java/lang/IllegalArgumentException" ["java/lang/RuntimeException", "java/lang/Exception"]).filter goodWord ++ (vx_atS RX1 175 "java/lang/IllegalStateException" ["java/lang/RuntimeException", "java/lang/Exception"]).filter goodWord ++ (vx_atS RX1 184 "java/lang/IndexOutOfBoundsException" ["java/lang/RuntimeException", "java/lang/Exception"]).filter goodWord)
def wsL_look_r1 : List Cond := [Cond.classLink RL 19 "java/lang/IllegalStateException", Cond.classLink RL 21 "java/lang/IndexOutOfBoundsException", Cond.classLink RL 13 "java/lang/IllegalArgumentException", Cond.methodLink RL 43 yX1_look, Cond.instanceMethod yX1_look, Cond.selects RX1 yX1_look yX1_look, Cond.initialized RX1, Cond.code yX1_look cX1_look 3 (some .int), Cond.classLink RX1 40 "java/lang/IllegalArgumentException", Cond.initialized "java/lang/IllegalArgumentException", Cond.fieldLink RX1 53 "WitchTrial" "seerPlayer" "I", Cond.fieldLink RX1 30 "WitchTrial" "lookChoice" "I", Cond.methodLink RX1 111 yX1_requirePhase, Cond.instanceMethod yX1_requirePhase, Cond.selects RX1 yX1_requirePhase yX1_requirePhase, Cond.code yX1_requirePhase cX1_requirePhase 2 none, Cond.classLink RX1 171 "java/lang/IllegalStateException", Cond.initialized "java/lang/IllegalStateException", Cond.fieldLink RX1 20 "WitchTrial" "phase" "I", Cond.methodLink RX1 130 yX1_requireToLive, Cond.instanceMethod yX1_requireToLive, Cond.selects RX1 yX1_requireToLive yX1_requireToLive, Cond.code yX1_requireToLive cX1_requireToLive 2 none, Cond.methodLink RX1 114 yX1_isAlive]
def wsL_look_r2 : List Cond := [Cond.instanceMethod yX1_isAlive, Cond.selects RX1 yX1_isAlive yX1_isAlive, Cond.code yX1_isAlive cX1_isAlive 2 (some .boolean), Cond.fieldLink RX1 63 "WitchTrial" "aliveSet" "I", Cond.methodLink RX1 194 yX1_setOf, Cond.static yX1_setOf, Cond.code yX1_setOf cX1_setOf 1 (some .int), Cond.methodLink RX1 95 yX1_requirePlayer, Cond.instanceMethod yX1_requirePlayer, Cond.selects RX1 yX1_requirePlayer yX1_requirePlayer, Cond.code yX1_requirePlayer cX1_requirePlayer 2 none, Cond.classLink RX1 180 "java/lang/IndexOutOfBoundsException", Cond.initialized "java/lang/IndexOutOfBoundsException", Cond.fieldLink RX1 47 "WitchTrial" "playerCount" "I"]
def wsL_look : List Cond := .codeWith yL_look cL_look 4 (some .int) [(0, 9, 12, 19), (0, 9, 15, 21), (0, 9, 18, 13)] :: ((wsL_look_r1 ++ wsL_look_r2) ++ wsX10 ++ (vx_atS RX1 44 "java/lang/IllegalArgumentException" ["java/lang/RuntimeException", "java/lang/Exception"]).filter goodWord ++ (vx_atS RX1 175 "java/lang/IllegalStateException" ["java/lang/RuntimeException", "java/lang/Exception"]).filter goodWord ++ (vx_atS RX1 184 "java/lang/IndexOutOfBoundsException" ["java/lang/RuntimeException", "java/lang/Exception"]).filter goodWord)
def wsL_endNight_r1 : List Cond := [Cond.classLink RL 19 "java/lang/IllegalStateException", Cond.methodLink RL 46 yX1_endNight, Cond.instanceMethod yX1_endNight, Cond.selects RX1 yX1_endNight yX1_endNight, Cond.initialized RX1, Cond.code yX1_endNight cX1_endNight 2 (some .int), Cond.fieldLink RX1 27 "WitchTrial" "attackChoice" "I", Cond.fieldLink RX1 24 "WitchTrial" "protectChoice" "I", Cond.fieldLink RX1 20 "WitchTrial" "phase" "I", Cond.fieldLink RX1 69 "WitchTrial" "dayNumber" "I", Cond.fieldLink RX1 33 "WitchTrial" "protectedLastNight" "I", Cond.methodLink RX1 111 yX1_requirePhase, Cond.instanceMethod yX1_requirePhase, Cond.selects RX1 yX1_requirePhase yX1_requirePhase, Cond.code yX1_requirePhase cX1_requirePhase 2 none, Cond.classLink RX1 171 "java/lang/IllegalStateException", Cond.initialized "java/lang/IllegalStateException", Cond.methodLink RX1 127 yX1_die, Cond.instanceMethod yX1_die, Cond.selects RX1 yX1_die yX1_die, Cond.code yX1_die cX1_die 4 none, Cond.fieldLink RX1 63 "WitchTrial" "aliveSet" "I", Cond.fieldLink RX1 50 "WitchTrial" "witchSet" "I", Cond.methodLink RX1 194 yX1_setOf]
def wsL_endNight_r2 : List Cond := [Cond.static yX1_setOf, Cond.code yX1_setOf cX1_setOf 1 (some .int), Cond.methodLink RX1 185 yJ6_bitCount_0f7a4, Cond.static yJ6_bitCount_0f7a4, Cond.initialized RJ6, Cond.code yJ6_bitCount_0f7a4 cJ6_bitCount_0f7a4 1 (some .int), Cond.constant RJ6 265 (1431655765), Cond.constant RJ6 266 (858993459), Cond.constant RJ6 267 (252645135), Cond.methodLink RX1 142 yX1_seerLooks, Cond.instanceMethod yX1_seerLooks, Cond.selects RX1 yX1_seerLooks yX1_seerLooks, Cond.code yX1_seerLooks cX1_seerLooks 1 none, Cond.fieldLink RX1 30 "WitchTrial" "lookChoice" "I", Cond.fieldLink RX1 53 "WitchTrial" "seerPlayer" "I", Cond.fieldLink RX1 66 "WitchTrial" "lookedAtSet" "I", Cond.methodLink RX1 114 yX1_isAlive, Cond.instanceMethod yX1_isAlive, Cond.selects RX1 yX1_isAlive yX1_isAlive, Cond.code yX1_isAlive cX1_isAlive 2 (some .boolean), Cond.methodLink RX1 75 yX1_forgetChoices, Cond.instanceMethod yX1_forgetChoices, Cond.selects RX1 yX1_forgetChoices yX1_forgetChoices, Cond.code yX1_forgetChoices cX1_forgetChoices 1 none]
def wsL_endNight : List Cond := .codeWith yL_endNight cL_endNight 3 (some .int) [(0, 8, 11, 19)] :: ((wsL_endNight_r1 ++ wsL_endNight_r2) ++ wsX10 ++ (vx_atS RX1 175 "java/lang/IllegalStateException" ["java/lang/RuntimeException", "java/lang/Exception"]).filter goodWord)
def wsL_day : List Cond := .codeWith yL_day cL_day 3 (some .int) [(0, 8, 11, 19)] :: ([.classLink RL 19 "java/lang/IllegalStateException", .methodLink RL 49 yX1_day, .instanceMethod yX1_day, .selects RX1 yX1_day yX1_day, .initialized RX1, .code yX1_day cX1_day 1 (some .int), .fieldLink RX1 69 "WitchTrial" "dayNumber" "I", .methodLink RX1 92 yX1_requireGame, .instanceMethod yX1_requireGame, .selects RX1 yX1_requireGame yX1_requireGame, .code yX1_requireGame cX1_requireGame 1 none, .classLink RX1 171 "java/lang/IllegalStateException", .initialized "java/lang/IllegalStateException", .fieldLink RX1 20 "WitchTrial" "phase" "I"] ++ wsX10 ++ (vx_atS RX1 175 "java/lang/IllegalStateException" ["java/lang/RuntimeException", "java/lang/Exception"]).filter goodWord)
def wsL_alive : List Cond := .codeWith yL_alive cL_alive 3 (some .int) [(0, 8, 11, 19)] :: ([.classLink RL 19 "java/lang/IllegalStateException", .methodLink RL 52 yX1_alive, .instanceMethod yX1_alive, .selects RX1 yX1_alive yX1_alive, .initialized RX1, .code yX1_alive cX1_alive 1 (some .int), .fieldLink RX1 63 "WitchTrial" "aliveSet" "I", .methodLink RX1 92 yX1_requireGame, .instanceMethod yX1_requireGame, .selects RX1 yX1_requireGame yX1_requireGame, .code yX1_requireGame cX1_requireGame 1 none, .classLink RX1 171 "java/lang/IllegalStateException", .initialized "java/lang/IllegalStateException", .fieldLink RX1 20 "WitchTrial" "phase" "I"] ++ wsX10 ++ (vx_atS RX1 175 "java/lang/IllegalStateException" ["java/lang/RuntimeException", "java/lang/Exception"]).filter goodWord)
def wsL_votesFor_r1 : List Cond := [Cond.classLink RL 19 "java/lang/IllegalStateException", Cond.classLink RL 21 "java/lang/IndexOutOfBoundsException", Cond.methodLink RL 55 yX1_votesFor, Cond.instanceMethod yX1_votesFor, Cond.selects RX1 yX1_votesFor yX1_votesFor, Cond.initialized RX1, Cond.code yX1_votesFor cX1_votesFor 2 (some .int), Cond.methodLink RX1 92 yX1_requireGame, Cond.instanceMethod yX1_requireGame, Cond.selects RX1 yX1_requireGame yX1_requireGame, Cond.code yX1_requireGame cX1_requireGame 1 none, Cond.classLink RX1 171 "java/lang/IllegalStateException", Cond.initialized "java/lang/IllegalStateException", Cond.fieldLink RX1 20 "WitchTrial" "phase" "I", Cond.methodLink RX1 95 yX1_requirePlayer, Cond.instanceMethod yX1_requirePlayer, Cond.selects RX1 yX1_requirePlayer yX1_requirePlayer, Cond.code yX1_requirePlayer cX1_requirePlayer 2 none, Cond.classLink RX1 180 "java/lang/IndexOutOfBoundsException", Cond.initialized "java/lang/IndexOutOfBoundsException", Cond.fieldLink RX1 47 "WitchTrial" "playerCount" "I", Cond.methodLink RX1 120 yX1_countVotes, Cond.instanceMethod yX1_countVotes, Cond.selects RX1 yX1_countVotes yX1_countVotes]
def wsL_votesFor_r2 : List Cond := [Cond.code yX1_countVotes cX1_countVotes 7 (some .int), Cond.fieldLink RX1 16 "WitchTrial" "voteOf" "[I"]
def wsL_votesFor : List Cond := .codeWith yL_votesFor cL_votesFor 4 (some .int) [(0, 9, 12, 19), (0, 9, 15, 21)] :: ((wsL_votesFor_r1 ++ wsL_votesFor_r2) ++ wsX10 ++ (vx_atS RX1 175 "java/lang/IllegalStateException" ["java/lang/RuntimeException", "java/lang/Exception"]).filter goodWord ++ (vx_atS RX1 184 "java/lang/IndexOutOfBoundsException" ["java/lang/RuntimeException", "java/lang/Exception"]).filter goodWord)
def wsL_lookedAt : List Cond := .codeWith yL_lookedAt cL_lookedAt 3 (some .int) [(0, 8, 11, 19)] :: ([.classLink RL 19 "java/lang/IllegalStateException", .methodLink RL 58 yX1_lookedAt, .instanceMethod yX1_lookedAt, .selects RX1 yX1_lookedAt yX1_lookedAt, .initialized RX1, .code yX1_lookedAt cX1_lookedAt 1 (some .int), .fieldLink RX1 66 "WitchTrial" "lookedAtSet" "I", .methodLink RX1 92 yX1_requireGame, .instanceMethod yX1_requireGame, .selects RX1 yX1_requireGame yX1_requireGame, .code yX1_requireGame cX1_requireGame 1 none, .classLink RX1 171 "java/lang/IllegalStateException", .initialized "java/lang/IllegalStateException", .fieldLink RX1 20 "WitchTrial" "phase" "I"] ++ wsX10 ++ (vx_atS RX1 175 "java/lang/IllegalStateException" ["java/lang/RuntimeException", "java/lang/Exception"]).filter goodWord)
def wsL_worlds_r1 : List Cond := [Cond.classLink RL 19 "java/lang/IllegalStateException", Cond.classLink RL 21 "java/lang/IndexOutOfBoundsException", Cond.methodLink RL 61 yX1_worlds, Cond.instanceMethod yX1_worlds, Cond.selects RX1 yX1_worlds yX1_worlds, Cond.initialized RX1, Cond.code yX1_worlds cX1_worlds 2 (some .int), Cond.fieldLink RX1 12 "WitchTrial" "book" "LWitchTrial$Book;", Cond.methodLink RX1 92 yX1_requireGame, Cond.instanceMethod yX1_requireGame, Cond.selects RX1 yX1_requireGame yX1_requireGame, Cond.code yX1_requireGame cX1_requireGame 1 none, Cond.classLink RX1 171 "java/lang/IllegalStateException", Cond.initialized "java/lang/IllegalStateException", Cond.fieldLink RX1 20 "WitchTrial" "phase" "I", Cond.methodLink RX1 145 yX1_requireViewer, Cond.instanceMethod yX1_requireViewer, Cond.selects RX1 yX1_requireViewer yX1_requireViewer, Cond.code yX1_requireViewer cX1_requireViewer 2 none, Cond.methodLink RX1 95 yX1_requirePlayer, Cond.instanceMethod yX1_requirePlayer, Cond.selects RX1 yX1_requirePlayer yX1_requirePlayer, Cond.code yX1_requirePlayer cX1_requirePlayer 2 none, Cond.classLink RX1 180 "java/lang/IndexOutOfBoundsException"]
def wsL_worlds_r2 : List Cond := [Cond.initialized "java/lang/IndexOutOfBoundsException", Cond.fieldLink RX1 47 "WitchTrial" "playerCount" "I", Cond.methodLink RX1 86 yX1_knownBits, Cond.instanceMethod yX1_knownBits, Cond.selects RX1 yX1_knownBits yX1_knownBits, Cond.code yX1_knownBits cX1_knownBits 3 (some .int), Cond.fieldLink RX1 63 "WitchTrial" "aliveSet" "I", Cond.fieldLink RX1 53 "WitchTrial" "seerPlayer" "I", Cond.fieldLink RX1 66 "WitchTrial" "lookedAtSet" "I", Cond.methodLink RX1 59 yX1_everyone, Cond.static yX1_everyone, Cond.code yX1_everyone cX1_everyone 1 (some .int), Cond.methodLink RX1 219 yX1_roleBits, Cond.static yX1_roleBits, Cond.code yX1_roleBits cX1_roleBits 1 (some .int), Cond.methodLink RX1 194 yX1_setOf, Cond.static yX1_setOf, Cond.code yX1_setOf cX1_setOf 1 (some .int), Cond.methodLink RX1 135 yX1_isWitch, Cond.instanceMethod yX1_isWitch, Cond.selects RX1 yX1_isWitch yX1_isWitch, Cond.code yX1_isWitch cX1_isWitch 2 (some .boolean), Cond.fieldLink RX1 50 "WitchTrial" "witchSet" "I", Cond.instanceMethod yX0_count]
def wsL_worlds_r3 : List Cond := [Cond.initialized RX0, Cond.selects RX0 yX0_count yX0_count, Cond.code yX0_count cX0_count 4 (some .int), Cond.fieldLink RX0 11 "WitchTrial$Book" "pages" "[I", Cond.methodLink RX0 55 yX0_agrees, Cond.instanceMethod yX0_agrees, Cond.selects RX0 yX0_agrees yX0_agrees, Cond.code yX0_agrees cX0_agrees 3 (some .boolean), Cond.fieldLink RX0 15 "WitchTrial$Book" "truth" "I"]
def wsL_worlds : List Cond := .codeWith yL_worlds cL_worlds 4 (some .int) [(0, 9, 12, 19), (0, 9, 15, 21)] :: ((wsL_worlds_r1 ++ (wsL_worlds_r2 ++ wsL_worlds_r3)) ++ wsX10 ++ wsX00 ++ (vx_atS RX1 175 "java/lang/IllegalStateException" ["java/lang/RuntimeException", "java/lang/Exception"]).filter goodWord ++ (vx_atS RX1 184 "java/lang/IndexOutOfBoundsException" ["java/lang/RuntimeException", "java/lang/Exception"]).filter goodWord)
def wsL_worldsWith_r1 : List Cond := [Cond.classLink RL 19 "java/lang/IllegalStateException", Cond.classLink RL 21 "java/lang/IndexOutOfBoundsException", Cond.classLink RL 13 "java/lang/IllegalArgumentException", Cond.methodLink RL 64 yX1_worldsWith, Cond.instanceMethod yX1_worldsWith, Cond.selects RX1 yX1_worldsWith yX1_worldsWith, Cond.initialized RX1, Cond.code yX1_worldsWith cX1_worldsWith 4 (some .int), Cond.classLink RX1 40 "java/lang/IllegalArgumentException", Cond.initialized "java/lang/IllegalArgumentException", Cond.fieldLink RX1 12 "WitchTrial" "book" "LWitchTrial$Book;", Cond.methodLink RX1 92 yX1_requireGame, Cond.instanceMethod yX1_requireGame, Cond.selects RX1 yX1_requireGame yX1_requireGame, Cond.code yX1_requireGame cX1_requireGame 1 none, Cond.classLink RX1 171 "java/lang/IllegalStateException", Cond.initialized "java/lang/IllegalStateException", Cond.fieldLink RX1 20 "WitchTrial" "phase" "I", Cond.methodLink RX1 145 yX1_requireViewer, Cond.instanceMethod yX1_requireViewer, Cond.selects RX1 yX1_requireViewer yX1_requireViewer, Cond.code yX1_requireViewer cX1_requireViewer 2 none, Cond.methodLink RX1 95 yX1_requirePlayer, Cond.instanceMethod yX1_requirePlayer]
def wsL_worldsWith_r2 : List Cond := [Cond.selects RX1 yX1_requirePlayer yX1_requirePlayer, Cond.code yX1_requirePlayer cX1_requirePlayer 2 none, Cond.classLink RX1 180 "java/lang/IndexOutOfBoundsException", Cond.initialized "java/lang/IndexOutOfBoundsException", Cond.fieldLink RX1 47 "WitchTrial" "playerCount" "I", Cond.methodLink RX1 86 yX1_knownBits, Cond.instanceMethod yX1_knownBits, Cond.selects RX1 yX1_knownBits yX1_knownBits, Cond.code yX1_knownBits cX1_knownBits 3 (some .int), Cond.fieldLink RX1 63 "WitchTrial" "aliveSet" "I", Cond.fieldLink RX1 53 "WitchTrial" "seerPlayer" "I", Cond.fieldLink RX1 66 "WitchTrial" "lookedAtSet" "I", Cond.methodLink RX1 59 yX1_everyone, Cond.static yX1_everyone, Cond.code yX1_everyone cX1_everyone 1 (some .int), Cond.methodLink RX1 219 yX1_roleBits, Cond.static yX1_roleBits, Cond.code yX1_roleBits cX1_roleBits 1 (some .int), Cond.methodLink RX1 194 yX1_setOf, Cond.static yX1_setOf, Cond.code yX1_setOf cX1_setOf 1 (some .int), Cond.methodLink RX1 135 yX1_isWitch, Cond.instanceMethod yX1_isWitch, Cond.selects RX1 yX1_isWitch yX1_isWitch]
def wsL_worldsWith_r3 : List Cond := [Cond.code yX1_isWitch cX1_isWitch 2 (some .boolean), Cond.fieldLink RX1 50 "WitchTrial" "witchSet" "I", Cond.instanceMethod yX0_countWithRole, Cond.initialized RX0, Cond.selects RX0 yX0_countWithRole yX0_countWithRole, Cond.code yX0_countWithRole cX0_countWithRole 8 (some .int), Cond.fieldLink RX0 11 "WitchTrial$Book" "pages" "[I", Cond.static yX1_bitOfRole, Cond.code yX1_bitOfRole cX1_bitOfRole 2 (some .int), Cond.methodLink RX0 55 yX0_agrees, Cond.instanceMethod yX0_agrees, Cond.selects RX0 yX0_agrees yX0_agrees, Cond.code yX0_agrees cX0_agrees 3 (some .boolean), Cond.fieldLink RX0 15 "WitchTrial$Book" "truth" "I"]
def wsL_worldsWith : List Cond := .codeWith yL_worldsWith cL_worldsWith 6 (some .int) [(0, 12, 15, 19), (0, 12, 19, 21), (0, 12, 23, 13)] :: ((wsL_worldsWith_r1 ++ (wsL_worldsWith_r2 ++ wsL_worldsWith_r3)) ++ wsX10 ++ wsX00 ++ (vx_atS RX1 44 "java/lang/IllegalArgumentException" ["java/lang/RuntimeException", "java/lang/Exception"]).filter goodWord ++ (vx_atS RX1 175 "java/lang/IllegalStateException" ["java/lang/RuntimeException", "java/lang/Exception"]).filter goodWord ++ (vx_atS RX1 184 "java/lang/IndexOutOfBoundsException" ["java/lang/RuntimeException", "java/lang/Exception"]).filter goodWord)
def wsL_sureWitches_r1 : List Cond := [Cond.classLink RL 19 "java/lang/IllegalStateException", Cond.classLink RL 21 "java/lang/IndexOutOfBoundsException", Cond.methodLink RL 67 yX1_sureWitches, Cond.instanceMethod yX1_sureWitches, Cond.selects RX1 yX1_sureWitches yX1_sureWitches, Cond.initialized RX1, Cond.code yX1_sureWitches cX1_sureWitches 2 (some .int), Cond.fieldLink RX1 12 "WitchTrial" "book" "LWitchTrial$Book;", Cond.methodLink RX1 92 yX1_requireGame, Cond.instanceMethod yX1_requireGame, Cond.selects RX1 yX1_requireGame yX1_requireGame, Cond.code yX1_requireGame cX1_requireGame 1 none, Cond.classLink RX1 171 "java/lang/IllegalStateException", Cond.initialized "java/lang/IllegalStateException", Cond.fieldLink RX1 20 "WitchTrial" "phase" "I", Cond.methodLink RX1 145 yX1_requireViewer, Cond.instanceMethod yX1_requireViewer, Cond.selects RX1 yX1_requireViewer yX1_requireViewer, Cond.code yX1_requireViewer cX1_requireViewer 2 none, Cond.methodLink RX1 95 yX1_requirePlayer, Cond.instanceMethod yX1_requirePlayer, Cond.selects RX1 yX1_requirePlayer yX1_requirePlayer, Cond.code yX1_requirePlayer cX1_requirePlayer 2 none, Cond.classLink RX1 180 "java/lang/IndexOutOfBoundsException"]
def wsL_sureWitches_r2 : List Cond := [Cond.initialized "java/lang/IndexOutOfBoundsException", Cond.fieldLink RX1 47 "WitchTrial" "playerCount" "I", Cond.methodLink RX1 86 yX1_knownBits, Cond.instanceMethod yX1_knownBits, Cond.selects RX1 yX1_knownBits yX1_knownBits, Cond.code yX1_knownBits cX1_knownBits 3 (some .int), Cond.fieldLink RX1 63 "WitchTrial" "aliveSet" "I", Cond.fieldLink RX1 53 "WitchTrial" "seerPlayer" "I", Cond.fieldLink RX1 66 "WitchTrial" "lookedAtSet" "I", Cond.methodLink RX1 59 yX1_everyone, Cond.static yX1_everyone, Cond.code yX1_everyone cX1_everyone 1 (some .int), Cond.methodLink RX1 219 yX1_roleBits, Cond.static yX1_roleBits, Cond.code yX1_roleBits cX1_roleBits 1 (some .int), Cond.methodLink RX1 194 yX1_setOf, Cond.static yX1_setOf, Cond.code yX1_setOf cX1_setOf 1 (some .int), Cond.methodLink RX1 135 yX1_isWitch, Cond.instanceMethod yX1_isWitch, Cond.selects RX1 yX1_isWitch yX1_isWitch, Cond.code yX1_isWitch cX1_isWitch 2 (some .boolean), Cond.fieldLink RX1 50 "WitchTrial" "witchSet" "I", Cond.instanceMethod yX0_witchesInAll]
def wsL_sureWitches_r3 : List Cond := [Cond.initialized RX0, Cond.selects RX0 yX0_witchesInAll yX0_witchesInAll, Cond.code yX0_witchesInAll cX0_witchesInAll 4 (some .int), Cond.fieldLink RX0 11 "WitchTrial$Book" "pages" "[I", Cond.methodLink RX0 55 yX0_agrees, Cond.instanceMethod yX0_agrees, Cond.selects RX0 yX0_agrees yX0_agrees, Cond.code yX0_agrees cX0_agrees 3 (some .boolean), Cond.fieldLink RX0 15 "WitchTrial$Book" "truth" "I", Cond.static yX1_witchesOf, Cond.code yX1_witchesOf cX1_witchesOf 1 (some .int)]
def wsL_sureWitches : List Cond := .codeWith yL_sureWitches cL_sureWitches 4 (some .int) [(0, 9, 12, 19), (0, 9, 15, 21)] :: ((wsL_sureWitches_r1 ++ (wsL_sureWitches_r2 ++ wsL_sureWitches_r3)) ++ wsX10 ++ wsX00 ++ (vx_atS RX1 175 "java/lang/IllegalStateException" ["java/lang/RuntimeException", "java/lang/Exception"]).filter goodWord ++ (vx_atS RX1 184 "java/lang/IndexOutOfBoundsException" ["java/lang/RuntimeException", "java/lang/Exception"]).filter goodWord)
def wsL_sureHonest_r1 : List Cond := [Cond.classLink RL 19 "java/lang/IllegalStateException", Cond.classLink RL 21 "java/lang/IndexOutOfBoundsException", Cond.methodLink RL 70 yX1_sureHonest, Cond.instanceMethod yX1_sureHonest, Cond.selects RX1 yX1_sureHonest yX1_sureHonest, Cond.initialized RX1, Cond.code yX1_sureHonest cX1_sureHonest 2 (some .int), Cond.fieldLink RX1 47 "WitchTrial" "playerCount" "I", Cond.fieldLink RX1 12 "WitchTrial" "book" "LWitchTrial$Book;", Cond.methodLink RX1 92 yX1_requireGame, Cond.instanceMethod yX1_requireGame, Cond.selects RX1 yX1_requireGame yX1_requireGame, Cond.code yX1_requireGame cX1_requireGame 1 none, Cond.classLink RX1 171 "java/lang/IllegalStateException", Cond.initialized "java/lang/IllegalStateException", Cond.fieldLink RX1 20 "WitchTrial" "phase" "I", Cond.methodLink RX1 145 yX1_requireViewer, Cond.instanceMethod yX1_requireViewer, Cond.selects RX1 yX1_requireViewer yX1_requireViewer, Cond.code yX1_requireViewer cX1_requireViewer 2 none, Cond.methodLink RX1 95 yX1_requirePlayer, Cond.instanceMethod yX1_requirePlayer, Cond.selects RX1 yX1_requirePlayer yX1_requirePlayer, Cond.code yX1_requirePlayer cX1_requirePlayer 2 none]
def wsL_sureHonest_r2 : List Cond := [Cond.classLink RX1 180 "java/lang/IndexOutOfBoundsException", Cond.initialized "java/lang/IndexOutOfBoundsException", Cond.methodLink RX1 59 yX1_everyone, Cond.static yX1_everyone, Cond.code yX1_everyone cX1_everyone 1 (some .int), Cond.methodLink RX1 86 yX1_knownBits, Cond.instanceMethod yX1_knownBits, Cond.selects RX1 yX1_knownBits yX1_knownBits, Cond.code yX1_knownBits cX1_knownBits 3 (some .int), Cond.fieldLink RX1 63 "WitchTrial" "aliveSet" "I", Cond.fieldLink RX1 53 "WitchTrial" "seerPlayer" "I", Cond.fieldLink RX1 66 "WitchTrial" "lookedAtSet" "I", Cond.methodLink RX1 219 yX1_roleBits, Cond.static yX1_roleBits, Cond.code yX1_roleBits cX1_roleBits 1 (some .int), Cond.methodLink RX1 194 yX1_setOf, Cond.static yX1_setOf, Cond.code yX1_setOf cX1_setOf 1 (some .int), Cond.methodLink RX1 135 yX1_isWitch, Cond.instanceMethod yX1_isWitch, Cond.selects RX1 yX1_isWitch yX1_isWitch, Cond.code yX1_isWitch cX1_isWitch 2 (some .boolean), Cond.fieldLink RX1 50 "WitchTrial" "witchSet" "I", Cond.instanceMethod yX0_witchesInAny]
def wsL_sureHonest_r3 : List Cond := [Cond.initialized RX0, Cond.selects RX0 yX0_witchesInAny yX0_witchesInAny, Cond.code yX0_witchesInAny cX0_witchesInAny 4 (some .int), Cond.fieldLink RX0 11 "WitchTrial$Book" "pages" "[I", Cond.methodLink RX0 55 yX0_agrees, Cond.instanceMethod yX0_agrees, Cond.selects RX0 yX0_agrees yX0_agrees, Cond.code yX0_agrees cX0_agrees 3 (some .boolean), Cond.fieldLink RX0 15 "WitchTrial$Book" "truth" "I", Cond.static yX1_witchesOf, Cond.code yX1_witchesOf cX1_witchesOf 1 (some .int)]
def wsL_sureHonest : List Cond := .codeWith yL_sureHonest cL_sureHonest 4 (some .int) [(0, 9, 12, 19), (0, 9, 15, 21)] :: ((wsL_sureHonest_r1 ++ (wsL_sureHonest_r2 ++ wsL_sureHonest_r3)) ++ wsX10 ++ wsX00 ++ (vx_atS RX1 175 "java/lang/IllegalStateException" ["java/lang/RuntimeException", "java/lang/Exception"]).filter goodWord ++ (vx_atS RX1 184 "java/lang/IndexOutOfBoundsException" ["java/lang/RuntimeException", "java/lang/Exception"]).filter goodWord)
def wsL_witchSets_r1 : List Cond := [Cond.classLink RL 19 "java/lang/IllegalStateException", Cond.classLink RL 21 "java/lang/IndexOutOfBoundsException", Cond.methodLink RL 73 yX1_witchSets, Cond.instanceMethod yX1_witchSets, Cond.selects RX1 yX1_witchSets yX1_witchSets, Cond.initialized RX1, Cond.code yX1_witchSets cX1_witchSets 2 (some .int), Cond.fieldLink RX1 12 "WitchTrial" "book" "LWitchTrial$Book;", Cond.methodLink RX1 92 yX1_requireGame, Cond.instanceMethod yX1_requireGame, Cond.selects RX1 yX1_requireGame yX1_requireGame, Cond.code yX1_requireGame cX1_requireGame 1 none, Cond.classLink RX1 171 "java/lang/IllegalStateException", Cond.initialized "java/lang/IllegalStateException", Cond.fieldLink RX1 20 "WitchTrial" "phase" "I", Cond.methodLink RX1 145 yX1_requireViewer, Cond.instanceMethod yX1_requireViewer, Cond.selects RX1 yX1_requireViewer yX1_requireViewer, Cond.code yX1_requireViewer cX1_requireViewer 2 none, Cond.methodLink RX1 95 yX1_requirePlayer, Cond.instanceMethod yX1_requirePlayer, Cond.selects RX1 yX1_requirePlayer yX1_requirePlayer, Cond.code yX1_requirePlayer cX1_requirePlayer 2 none, Cond.classLink RX1 180 "java/lang/IndexOutOfBoundsException"]
def wsL_witchSets_r2 : List Cond := [Cond.initialized "java/lang/IndexOutOfBoundsException", Cond.fieldLink RX1 47 "WitchTrial" "playerCount" "I", Cond.methodLink RX1 86 yX1_knownBits, Cond.instanceMethod yX1_knownBits, Cond.selects RX1 yX1_knownBits yX1_knownBits, Cond.code yX1_knownBits cX1_knownBits 3 (some .int), Cond.fieldLink RX1 63 "WitchTrial" "aliveSet" "I", Cond.fieldLink RX1 53 "WitchTrial" "seerPlayer" "I", Cond.fieldLink RX1 66 "WitchTrial" "lookedAtSet" "I", Cond.methodLink RX1 59 yX1_everyone, Cond.static yX1_everyone, Cond.code yX1_everyone cX1_everyone 1 (some .int), Cond.methodLink RX1 219 yX1_roleBits, Cond.static yX1_roleBits, Cond.code yX1_roleBits cX1_roleBits 1 (some .int), Cond.methodLink RX1 194 yX1_setOf, Cond.static yX1_setOf, Cond.code yX1_setOf cX1_setOf 1 (some .int), Cond.methodLink RX1 135 yX1_isWitch, Cond.instanceMethod yX1_isWitch, Cond.selects RX1 yX1_isWitch yX1_isWitch, Cond.code yX1_isWitch cX1_isWitch 2 (some .boolean), Cond.fieldLink RX1 50 "WitchTrial" "witchSet" "I", Cond.instanceMethod yX0_countWitchSets]
def wsL_witchSets_r3 : List Cond := [Cond.initialized RX0, Cond.selects RX0 yX0_countWitchSets yX0_countWitchSets, Cond.code yX0_countWitchSets cX0_countWitchSets 5 (some .int), Cond.fieldLink RX0 11 "WitchTrial$Book" "pages" "[I", Cond.methodLink RX0 55 yX0_agrees, Cond.instanceMethod yX0_agrees, Cond.selects RX0 yX0_agrees yX0_agrees, Cond.code yX0_agrees cX0_agrees 3 (some .boolean), Cond.fieldLink RX0 15 "WitchTrial$Book" "truth" "I", Cond.static yX1_witchesOf, Cond.code yX1_witchesOf cX1_witchesOf 1 (some .int)]
def wsL_witchSets : List Cond := .codeWith yL_witchSets cL_witchSets 4 (some .int) [(0, 9, 12, 19), (0, 9, 15, 21)] :: ((wsL_witchSets_r1 ++ (wsL_witchSets_r2 ++ wsL_witchSets_r3)) ++ wsX10 ++ wsX00 ++ (vx_atS RX1 175 "java/lang/IllegalStateException" ["java/lang/RuntimeException", "java/lang/Exception"]).filter goodWord ++ (vx_atS RX1 184 "java/lang/IndexOutOfBoundsException" ["java/lang/RuntimeException", "java/lang/Exception"]).filter goodWord)
def wsL_suspect_r1 : List Cond := [Cond.classLink RL 19 "java/lang/IllegalStateException", Cond.classLink RL 21 "java/lang/IndexOutOfBoundsException", Cond.methodLink RL 76 yX1_suspect, Cond.instanceMethod yX1_suspect, Cond.selects RX1 yX1_suspect yX1_suspect, Cond.initialized RX1, Cond.code yX1_suspect cX1_suspect 7 (some .int), Cond.fieldLink RX1 47 "WitchTrial" "playerCount" "I", Cond.fieldLink RX1 12 "WitchTrial" "book" "LWitchTrial$Book;", Cond.methodLink RX1 92 yX1_requireGame, Cond.instanceMethod yX1_requireGame, Cond.selects RX1 yX1_requireGame yX1_requireGame, Cond.code yX1_requireGame cX1_requireGame 1 none, Cond.classLink RX1 171 "java/lang/IllegalStateException", Cond.initialized "java/lang/IllegalStateException", Cond.fieldLink RX1 20 "WitchTrial" "phase" "I", Cond.methodLink RX1 145 yX1_requireViewer, Cond.instanceMethod yX1_requireViewer, Cond.selects RX1 yX1_requireViewer yX1_requireViewer, Cond.code yX1_requireViewer cX1_requireViewer 2 none, Cond.methodLink RX1 95 yX1_requirePlayer, Cond.instanceMethod yX1_requirePlayer, Cond.selects RX1 yX1_requirePlayer yX1_requirePlayer, Cond.code yX1_requirePlayer cX1_requirePlayer 2 none]
def wsL_suspect_r2 : List Cond := [Cond.classLink RX1 180 "java/lang/IndexOutOfBoundsException", Cond.initialized "java/lang/IndexOutOfBoundsException", Cond.methodLink RX1 86 yX1_knownBits, Cond.instanceMethod yX1_knownBits, Cond.selects RX1 yX1_knownBits yX1_knownBits, Cond.code yX1_knownBits cX1_knownBits 3 (some .int), Cond.fieldLink RX1 63 "WitchTrial" "aliveSet" "I", Cond.fieldLink RX1 53 "WitchTrial" "seerPlayer" "I", Cond.fieldLink RX1 66 "WitchTrial" "lookedAtSet" "I", Cond.methodLink RX1 59 yX1_everyone, Cond.static yX1_everyone, Cond.code yX1_everyone cX1_everyone 1 (some .int), Cond.methodLink RX1 219 yX1_roleBits, Cond.static yX1_roleBits, Cond.code yX1_roleBits cX1_roleBits 1 (some .int), Cond.methodLink RX1 194 yX1_setOf, Cond.static yX1_setOf, Cond.code yX1_setOf cX1_setOf 1 (some .int), Cond.methodLink RX1 135 yX1_isWitch, Cond.instanceMethod yX1_isWitch, Cond.selects RX1 yX1_isWitch yX1_isWitch, Cond.code yX1_isWitch cX1_isWitch 2 (some .boolean), Cond.fieldLink RX1 50 "WitchTrial" "witchSet" "I", Cond.methodLink RX1 114 yX1_isAlive]
def wsL_suspect_r3 : List Cond := [Cond.instanceMethod yX1_isAlive, Cond.selects RX1 yX1_isAlive yX1_isAlive, Cond.code yX1_isAlive cX1_isAlive 2 (some .boolean), Cond.instanceMethod yX0_countWithRole, Cond.initialized RX0, Cond.selects RX0 yX0_countWithRole yX0_countWithRole, Cond.code yX0_countWithRole cX0_countWithRole 8 (some .int), Cond.fieldLink RX0 11 "WitchTrial$Book" "pages" "[I", Cond.static yX1_bitOfRole, Cond.code yX1_bitOfRole cX1_bitOfRole 2 (some .int), Cond.methodLink RX0 55 yX0_agrees, Cond.instanceMethod yX0_agrees, Cond.selects RX0 yX0_agrees yX0_agrees, Cond.code yX0_agrees cX0_agrees 3 (some .boolean), Cond.fieldLink RX0 15 "WitchTrial$Book" "truth" "I"]
def wsL_suspect : List Cond := .codeWith yL_suspect cL_suspect 4 (some .int) [(0, 9, 12, 19), (0, 9, 15, 21)] :: ((wsL_suspect_r1 ++ (wsL_suspect_r2 ++ wsL_suspect_r3)) ++ wsX10 ++ wsX00 ++ (vx_atS RX1 175 "java/lang/IllegalStateException" ["java/lang/RuntimeException", "java/lang/Exception"]).filter goodWord ++ (vx_atS RX1 184 "java/lang/IndexOutOfBoundsException" ["java/lang/RuntimeException", "java/lang/Exception"]).filter goodWord)
def wsL_bestLook_r1 : List Cond := [Cond.classLink RL 19 "java/lang/IllegalStateException", Cond.methodLink RL 79 yX1_bestLook, Cond.instanceMethod yX1_bestLook, Cond.selects RX1 yX1_bestLook yX1_bestLook, Cond.initialized RX1, Cond.code yX1_bestLook cX1_bestLook 8 (some .int), Cond.fieldLink RX1 53 "WitchTrial" "seerPlayer" "I", Cond.fieldLink RX1 12 "WitchTrial" "book" "LWitchTrial$Book;", Cond.fieldLink RX1 47 "WitchTrial" "playerCount" "I", Cond.methodLink RX1 162 Lib.Math.max.name, Cond.static Lib.Math.max.name, Cond.initialized "java/lang/Math", Cond.code Lib.Math.max.name Lib.Math.max.code 2 (some .int), Cond.methodLink RX1 92 yX1_requireGame, Cond.instanceMethod yX1_requireGame, Cond.selects RX1 yX1_requireGame yX1_requireGame, Cond.code yX1_requireGame cX1_requireGame 1 none, Cond.classLink RX1 171 "java/lang/IllegalStateException", Cond.initialized "java/lang/IllegalStateException", Cond.fieldLink RX1 20 "WitchTrial" "phase" "I", Cond.methodLink RX1 86 yX1_knownBits, Cond.instanceMethod yX1_knownBits, Cond.selects RX1 yX1_knownBits yX1_knownBits, Cond.code yX1_knownBits cX1_knownBits 3 (some .int)]
def wsL_bestLook_r2 : List Cond := [Cond.fieldLink RX1 63 "WitchTrial" "aliveSet" "I", Cond.fieldLink RX1 66 "WitchTrial" "lookedAtSet" "I", Cond.methodLink RX1 59 yX1_everyone, Cond.static yX1_everyone, Cond.code yX1_everyone cX1_everyone 1 (some .int), Cond.methodLink RX1 219 yX1_roleBits, Cond.static yX1_roleBits, Cond.code yX1_roleBits cX1_roleBits 1 (some .int), Cond.methodLink RX1 194 yX1_setOf, Cond.static yX1_setOf, Cond.code yX1_setOf cX1_setOf 1 (some .int), Cond.methodLink RX1 135 yX1_isWitch, Cond.instanceMethod yX1_isWitch, Cond.selects RX1 yX1_isWitch yX1_isWitch, Cond.code yX1_isWitch cX1_isWitch 2 (some .boolean), Cond.fieldLink RX1 50 "WitchTrial" "witchSet" "I", Cond.instanceMethod yX0_count, Cond.initialized RX0, Cond.selects RX0 yX0_count yX0_count, Cond.code yX0_count cX0_count 4 (some .int), Cond.fieldLink RX0 11 "WitchTrial$Book" "pages" "[I", Cond.methodLink RX0 55 yX0_agrees, Cond.instanceMethod yX0_agrees, Cond.selects RX0 yX0_agrees yX0_agrees]
def wsL_bestLook_r3 : List Cond := [Cond.code yX0_agrees cX0_agrees 3 (some .boolean), Cond.fieldLink RX0 15 "WitchTrial$Book" "truth" "I", Cond.methodLink RX1 114 yX1_isAlive, Cond.instanceMethod yX1_isAlive, Cond.selects RX1 yX1_isAlive yX1_isAlive, Cond.code yX1_isAlive cX1_isAlive 2 (some .boolean), Cond.instanceMethod yX0_countWithRole, Cond.selects RX0 yX0_countWithRole yX0_countWithRole, Cond.code yX0_countWithRole cX0_countWithRole 8 (some .int), Cond.static yX1_bitOfRole, Cond.code yX1_bitOfRole cX1_bitOfRole 2 (some .int)]
def wsL_bestLook : List Cond := .codeWith yL_bestLook cL_bestLook 3 (some .int) [(0, 8, 11, 19)] :: ((wsL_bestLook_r1 ++ (wsL_bestLook_r2 ++ wsL_bestLook_r3)) ++ wsX10 ++ wsX00 ++ (vx_atS RX1 175 "java/lang/IllegalStateException" ["java/lang/RuntimeException", "java/lang/Exception"]).filter goodWord)
def wsL_isPossible_r1 : List Cond := [Cond.classLink RL 19 "java/lang/IllegalStateException", Cond.classLink RL 21 "java/lang/IndexOutOfBoundsException", Cond.methodLink RL 82 yX1_isPossible, Cond.instanceMethod yX1_isPossible, Cond.selects RX1 yX1_isPossible yX1_isPossible, Cond.initialized RX1, Cond.code yX1_isPossible cX1_isPossible 5 (some .boolean), Cond.fieldLink RX1 12 "WitchTrial" "book" "LWitchTrial$Book;", Cond.methodLink RX1 92 yX1_requireGame, Cond.instanceMethod yX1_requireGame, Cond.selects RX1 yX1_requireGame yX1_requireGame, Cond.code yX1_requireGame cX1_requireGame 1 none, Cond.classLink RX1 171 "java/lang/IllegalStateException", Cond.initialized "java/lang/IllegalStateException", Cond.fieldLink RX1 20 "WitchTrial" "phase" "I", Cond.methodLink RX1 145 yX1_requireViewer, Cond.instanceMethod yX1_requireViewer, Cond.selects RX1 yX1_requireViewer yX1_requireViewer, Cond.code yX1_requireViewer cX1_requireViewer 2 none, Cond.methodLink RX1 95 yX1_requirePlayer, Cond.instanceMethod yX1_requirePlayer, Cond.selects RX1 yX1_requirePlayer yX1_requirePlayer, Cond.code yX1_requirePlayer cX1_requirePlayer 2 none, Cond.classLink RX1 180 "java/lang/IndexOutOfBoundsException"]
def wsL_isPossible_r2 : List Cond := [Cond.initialized "java/lang/IndexOutOfBoundsException", Cond.fieldLink RX1 47 "WitchTrial" "playerCount" "I", Cond.methodLink RX1 78 yX1_worldOf, Cond.static yX1_worldOf, Cond.code yX1_worldOf cX1_worldOf 3 (some .int), Cond.methodLink RX1 194 yX1_setOf, Cond.static yX1_setOf, Cond.code yX1_setOf cX1_setOf 1 (some .int), Cond.methodLink RX1 86 yX1_knownBits, Cond.instanceMethod yX1_knownBits, Cond.selects RX1 yX1_knownBits yX1_knownBits, Cond.code yX1_knownBits cX1_knownBits 3 (some .int), Cond.fieldLink RX1 63 "WitchTrial" "aliveSet" "I", Cond.fieldLink RX1 53 "WitchTrial" "seerPlayer" "I", Cond.fieldLink RX1 66 "WitchTrial" "lookedAtSet" "I", Cond.methodLink RX1 59 yX1_everyone, Cond.static yX1_everyone, Cond.code yX1_everyone cX1_everyone 1 (some .int), Cond.methodLink RX1 219 yX1_roleBits, Cond.static yX1_roleBits, Cond.code yX1_roleBits cX1_roleBits 1 (some .int), Cond.methodLink RX1 135 yX1_isWitch, Cond.instanceMethod yX1_isWitch, Cond.selects RX1 yX1_isWitch yX1_isWitch]
def wsL_isPossible_r3 : List Cond := [Cond.code yX1_isWitch cX1_isWitch 2 (some .boolean), Cond.fieldLink RX1 50 "WitchTrial" "witchSet" "I", Cond.instanceMethod yX0_contains, Cond.initialized RX0, Cond.selects RX0 yX0_contains yX0_contains, Cond.code yX0_contains cX0_contains 4 (some .boolean), Cond.fieldLink RX0 11 "WitchTrial$Book" "pages" "[I", Cond.methodLink RX0 55 yX0_agrees, Cond.instanceMethod yX0_agrees, Cond.selects RX0 yX0_agrees yX0_agrees, Cond.code yX0_agrees cX0_agrees 3 (some .boolean), Cond.fieldLink RX0 15 "WitchTrial$Book" "truth" "I"]
def wsL_isPossible : List Cond := .codeWith yL_isPossible cL_isPossible 7 (some .int) [(0, 21, 24, 19), (0, 21, 28, 21)] :: ((wsL_isPossible_r1 ++ (wsL_isPossible_r2 ++ wsL_isPossible_r3)) ++ wsX10 ++ wsX00 ++ (vx_atS RX1 175 "java/lang/IllegalStateException" ["java/lang/RuntimeException", "java/lang/Exception"]).filter goodWord ++ (vx_atS RX1 184 "java/lang/IndexOutOfBoundsException" ["java/lang/RuntimeException", "java/lang/Exception"]).filter goodWord)
def wsL_law0_r1 : List Cond := [Cond.classLink RL 8 RX1, Cond.instantiable RX1 14, Cond.initialized RX1, Cond.classLink RL 87 RX2, Cond.instantiable RX2 16, Cond.initialized RX2, Cond.arrayClass .long, Cond.methodLink RL 86 yX1_init, Cond.instanceMethod yX1_init, Cond.code yX1_init cX1_init 1 none, Cond.methodLink RX1 3 objectInit, Cond.instanceMethod objectInit, Cond.code objectInit ⟨#[0xb1]⟩ 1 none, Cond.classLink RX1 9 RX0, Cond.instantiable RX0 2, Cond.initialized RX0, Cond.fieldLink RX1 12 "WitchTrial" "book" "LWitchTrial$Book;", Cond.arrayClass .int, Cond.fieldLink RX1 16 "WitchTrial" "voteOf" "[I", Cond.fieldLink RX1 20 "WitchTrial" "phase" "I", Cond.fieldLink RX1 24 "WitchTrial" "protectChoice" "I", Cond.fieldLink RX1 27 "WitchTrial" "attackChoice" "I", Cond.fieldLink RX1 30 "WitchTrial" "lookChoice" "I", Cond.fieldLink RX1 33 "WitchTrial" "protectedLastNight" "I"]
def wsL_law0_r2 : List Cond := [Cond.instanceMethod yX0_init, Cond.code yX0_init cX0_init 1 none, Cond.methodLink RX0 3 objectInit, Cond.fieldLink RX0 11 "WitchTrial$Book" "pages" "[I", Cond.methodLink RL 89 yX2_init, Cond.instanceMethod yX2_init, Cond.code yX2_init cX2_init 1 none, Cond.methodLink RX2 1 objectInit, Cond.arrayClass .boolean, Cond.fieldLink RX2 7 "WitchTrialModel" "isOpen" "[Z", Cond.fieldLink RX2 13 "WitchTrialModel" "votes" "[I", Cond.fieldLink RX2 17 "WitchTrialModel" "many" "[I", Cond.methodLink RL 90 yL_start, Cond.static yL_start, Cond.initialized RL, Cond.codeWith yL_start cL_start 7 (some .int) [(0, 14, 17, 13)], Cond.classLink RL 13 "java/lang/IllegalArgumentException", Cond.methodLink RL 7 yX1_start, Cond.instanceMethod yX1_start, Cond.selects RX1 yX1_start yX1_start, Cond.code yX1_start cX1_start 5 (some .int), Cond.classLink RX1 40 "java/lang/IllegalArgumentException", Cond.initialized "java/lang/IllegalArgumentException", Cond.fieldLink RX1 47 "WitchTrial" "playerCount" "I"]
def wsL_law0_r3 : List Cond := [Cond.fieldLink RX1 50 "WitchTrial" "witchSet" "I", Cond.fieldLink RX1 53 "WitchTrial" "seerPlayer" "I", Cond.fieldLink RX1 56 "WitchTrial" "guardPlayer" "I", Cond.fieldLink RX1 63 "WitchTrial" "aliveSet" "I", Cond.fieldLink RX1 66 "WitchTrial" "lookedAtSet" "I", Cond.fieldLink RX1 69 "WitchTrial" "dayNumber" "I", Cond.methodLink RX1 36 yX1_isDeal, Cond.static yX1_isDeal, Cond.code yX1_isDeal cX1_isDeal 4 (some .boolean), Cond.methodLink RX1 59 yX1_everyone, Cond.static yX1_everyone, Cond.code yX1_everyone cX1_everyone 1 (some .int), Cond.methodLink RX1 185 yJ6_bitCount_0f7a4, Cond.static yJ6_bitCount_0f7a4, Cond.initialized RJ6, Cond.code yJ6_bitCount_0f7a4 cJ6_bitCount_0f7a4 1 (some .int), Cond.constant RJ6 265 (1431655765), Cond.constant RJ6 266 (858993459), Cond.constant RJ6 267 (252645135), Cond.methodLink RX1 190 yX1_isHonestIn, Cond.static yX1_isHonestIn, Cond.code yX1_isHonestIn cX1_isHonestIn 3 (some .boolean), Cond.methodLink RX1 194 yX1_setOf, Cond.static yX1_setOf]
def wsL_law0_r4 : List Cond := [Cond.code yX1_setOf cX1_setOf 1 (some .int), Cond.methodLink RX1 72 yX1_forgetVotes, Cond.instanceMethod yX1_forgetVotes, Cond.selects RX1 yX1_forgetVotes yX1_forgetVotes, Cond.code yX1_forgetVotes cX1_forgetVotes 1 none, Cond.methodLink RX1 210 yJ7_fill_53178, Cond.static yJ7_fill_53178, Cond.initialized RJ7, Cond.code yJ7_fill_53178 cJ7_fill_53178 4 none, Cond.methodLink RX1 75 yX1_forgetChoices, Cond.instanceMethod yX1_forgetChoices, Cond.selects RX1 yX1_forgetChoices yX1_forgetChoices, Cond.code yX1_forgetChoices cX1_forgetChoices 1 none, Cond.methodLink RX1 78 yX1_worldOf, Cond.static yX1_worldOf, Cond.code yX1_worldOf cX1_worldOf 3 (some .int), Cond.instanceMethod yX0_open, Cond.selects RX0 yX0_open yX0_open, Cond.code yX0_open cX0_open 6 none, Cond.fieldLink RX0 15 "WitchTrial$Book" "truth" "I", Cond.methodLink RX0 19 yJ7_fill_53178, Cond.static yX1_witchesOf, Cond.code yX1_witchesOf cX1_witchesOf 1 (some .int), Cond.methodLink RX0 29 yJ6_bitCount_0f7a4]
def wsL_law0_r5 : List Cond := [Cond.methodLink RX0 37 yX0_addWorlds, Cond.instanceMethod yX0_addWorlds, Cond.selects RX0 yX0_addWorlds yX0_addWorlds, Cond.code yX0_addWorlds cX0_addWorlds 8 (some .int), Cond.methodLink RX1 86 yX1_knownBits, Cond.instanceMethod yX1_knownBits, Cond.selects RX1 yX1_knownBits yX1_knownBits, Cond.code yX1_knownBits cX1_knownBits 3 (some .int), Cond.methodLink RX1 219 yX1_roleBits, Cond.static yX1_roleBits, Cond.code yX1_roleBits cX1_roleBits 1 (some .int), Cond.methodLink RX1 135 yX1_isWitch, Cond.instanceMethod yX1_isWitch, Cond.selects RX1 yX1_isWitch yX1_isWitch, Cond.code yX1_isWitch cX1_isWitch 2 (some .boolean), Cond.instanceMethod yX0_count, Cond.selects RX0 yX0_count yX0_count, Cond.code yX0_count cX0_count 4 (some .int), Cond.methodLink RX0 55 yX0_agrees, Cond.instanceMethod yX0_agrees, Cond.selects RX0 yX0_agrees yX0_agrees, Cond.code yX0_agrees cX0_agrees 3 (some .boolean), Cond.methodLink RL 95 yX2_start, Cond.instanceMethod yX2_start]
def wsL_law0_r6 : List Cond := [Cond.selects RX2 yX2_start yX2_start, Cond.code yX2_start cX2_start 8 (some .int), Cond.fieldLink RX2 20 "WitchTrialModel" "thrown" "I", Cond.fieldLink RX2 24 "WitchTrialModel" "players" "I", Cond.fieldLink RX2 43 "WitchTrialModel" "witches" "I", Cond.fieldLink RX2 46 "WitchTrialModel" "seer" "I", Cond.fieldLink RX2 49 "WitchTrialModel" "guard" "I", Cond.fieldLink RX2 67 "WitchTrialModel" "alive" "I", Cond.fieldLink RX2 70 "WitchTrialModel" "phase" "I", Cond.fieldLink RX2 73 "WitchTrialModel" "day" "I", Cond.fieldLink RX2 60 "WitchTrialModel" "looked" "I", Cond.fieldLink RX2 76 "WitchTrialModel" "shieldedBefore" "I", Cond.methodLink RX2 35 yX2_bits, Cond.static yX2_bits, Cond.code yX2_bits cX2_bits 3 (some .int), Cond.methodLink RX2 27 yX2_in, Cond.static yX2_in, Cond.code yX2_in cX2_in 3 (some .boolean), Cond.methodLink RX2 63 yX2_isWorld, Cond.static yX2_isWorld, Cond.code yX2_isWorld cX2_isWorld 6 (some .boolean), Cond.methodLink RX2 39 yX2_has, Cond.static yX2_has, Cond.code yX2_has cX2_has 2 (some .boolean)]
def wsL_law0_r7 : List Cond := [Cond.methodLink RX2 79 yX2_forgets, Cond.instanceMethod yX2_forgets, Cond.selects RX2 yX2_forgets yX2_forgets, Cond.code yX2_forgets cX2_forgets 2 none, Cond.fieldLink RX2 85 "WitchTrialModel" "shielded" "I", Cond.fieldLink RX2 88 "WitchTrialModel" "attacked" "I", Cond.fieldLink RX2 91 "WitchTrialModel" "watched" "I", Cond.methodLink RX2 82 yX2_manyOpen, Cond.instanceMethod yX2_manyOpen, Cond.selects RX2 yX2_manyOpen yX2_manyOpen, Cond.code yX2_manyOpen cX2_manyOpen 3 (some .int), Cond.methodLink RL 96 yX2_thrown, Cond.instanceMethod yX2_thrown, Cond.selects RX2 yX2_thrown yX2_thrown, Cond.code yX2_thrown cX2_thrown 1 (some .int), Cond.methodLink RL 99 yX1_phase, Cond.instanceMethod yX1_phase, Cond.selects RX1 yX1_phase yX1_phase, Cond.code yX1_phase cX1_phase 1 (some .int), Cond.methodLink RL 102 yX2_phase, Cond.instanceMethod yX2_phase, Cond.selects RX2 yX2_phase yX2_phase, Cond.code yX2_phase cX2_phase 1 (some .int), Cond.methodLink RL 103 yL_claim]
def wsL_law0_r8 : List Cond := [Cond.static yL_claim, Cond.codeWith yL_claim cL_claim 6 (some .int) [(0, 12, 15, 19), (0, 12, 19, 21), (0, 12, 23, 13), (0, 12, 27, 23)], Cond.classLink RL 19 "java/lang/IllegalStateException", Cond.classLink RL 21 "java/lang/IndexOutOfBoundsException", Cond.classLink RL 23 "java/util/NoSuchElementException", Cond.methodLink RL 15 yX1_claim, Cond.instanceMethod yX1_claim, Cond.selects RX1 yX1_claim yX1_claim, Cond.code yX1_claim cX1_claim 4 (some .int), Cond.methodLink RX1 92 yX1_requireGame, Cond.instanceMethod yX1_requireGame, Cond.selects RX1 yX1_requireGame yX1_requireGame, Cond.code yX1_requireGame cX1_requireGame 1 none, Cond.classLink RX1 171 "java/lang/IllegalStateException", Cond.initialized "java/lang/IllegalStateException", Cond.methodLink RX1 95 yX1_requirePlayer, Cond.instanceMethod yX1_requirePlayer, Cond.selects RX1 yX1_requirePlayer yX1_requirePlayer, Cond.code yX1_requirePlayer cX1_requirePlayer 2 none, Cond.classLink RX1 180 "java/lang/IndexOutOfBoundsException", Cond.initialized "java/lang/IndexOutOfBoundsException", Cond.methodLink RX1 101 yX1_claimedBits, Cond.static yX1_claimedBits, Cond.code yX1_claimedBits cX1_claimedBits 2 (some .int)]
def wsL_law0_r9 : List Cond := [Cond.methodLink RX1 216 yX1_bitOfRole, Cond.static yX1_bitOfRole, Cond.code yX1_bitOfRole cX1_bitOfRole 2 (some .int), Cond.methodLink RX1 105 yX1_makeClaim, Cond.instanceMethod yX1_makeClaim, Cond.selects RX1 yX1_makeClaim yX1_makeClaim, Cond.code yX1_makeClaim cX1_makeClaim 4 (some .int), Cond.classLink RX1 201 "java/util/NoSuchElementException", Cond.initialized "java/util/NoSuchElementException", Cond.methodLink RX1 114 yX1_isAlive, Cond.instanceMethod yX1_isAlive, Cond.selects RX1 yX1_isAlive yX1_isAlive, Cond.code yX1_isAlive cX1_isAlive 2 (some .boolean), Cond.instanceMethod yX0_allowsClaim, Cond.selects RX0 yX0_allowsClaim yX0_allowsClaim, Cond.code yX0_allowsClaim cX0_allowsClaim 4 (some .boolean), Cond.methodLink RX0 51 yX0_agreesWithClaim, Cond.static yX0_agreesWithClaim, Cond.code yX0_agreesWithClaim cX0_agreesWithClaim 4 (some .boolean), Cond.instanceMethod yX0_keepClaim, Cond.selects RX0 yX0_keepClaim yX0_keepClaim, Cond.code yX0_keepClaim cX0_keepClaim 7 none, Cond.methodLink RL 106 yX2_claim, Cond.instanceMethod yX2_claim]
def wsL_law0_r10 : List Cond := [Cond.selects RX2 yX2_claim yX2_claim, Cond.code yX2_claim cX2_claim 5 (some .int), Cond.methodLink RX2 31 yX2_isPlayer, Cond.instanceMethod yX2_isPlayer, Cond.selects RX2 yX2_isPlayer yX2_isPlayer, Cond.code yX2_isPlayer cX2_isPlayer 2 (some .boolean), Cond.methodLink RX2 52 yX2_truth, Cond.instanceMethod yX2_truth, Cond.selects RX2 yX2_truth yX2_truth, Cond.code yX2_truth cX2_truth 1 (some .int), Cond.methodLink RX2 94 yX2_isTrue, Cond.static yX2_isTrue, Cond.code yX2_isTrue cX2_isTrue 4 (some .boolean), Cond.methodLink RX2 56 yX2_roleIn, Cond.static yX2_roleIn, Cond.code yX2_roleIn cX2_roleIn 2 (some .int), Cond.methodLink RX2 97 yX2_may, Cond.instanceMethod yX2_may, Cond.selects RX2 yX2_may yX2_may, Cond.code yX2_may cX2_may 3 (some .boolean), Cond.methodLink RL 107 yL_claimAmong, Cond.static yL_claimAmong, Cond.codeWith yL_claimAmong cL_claimAmong 5 (some .int) [(0, 10, 13, 19), (0, 10, 17, 21), (0, 10, 21, 13), (0, 10, 25, 23)], Cond.methodLink RL 25 yX1_claimAmong]
def wsL_law0_r11 : List Cond := [Cond.instanceMethod yX1_claimAmong, Cond.selects RX1 yX1_claimAmong yX1_claimAmong, Cond.code yX1_claimAmong cX1_claimAmong 3 (some .int), Cond.methodLink RL 110 yX2_claimAmong, Cond.instanceMethod yX2_claimAmong, Cond.selects RX2 yX2_claimAmong yX2_claimAmong, Cond.code yX2_claimAmong cX2_claimAmong 4 (some .int), Cond.methodLink RL 111 yL_vote, Cond.static yL_vote, Cond.codeWith yL_vote cL_vote 5 (some .int) [(0, 10, 13, 19), (0, 10, 17, 21), (0, 10, 21, 13)], Cond.methodLink RL 29 yX1_vote, Cond.instanceMethod yX1_vote, Cond.selects RX1 yX1_vote yX1_vote, Cond.code yX1_vote cX1_vote 3 (some .int), Cond.methodLink RX1 111 yX1_requirePhase, Cond.instanceMethod yX1_requirePhase, Cond.selects RX1 yX1_requirePhase yX1_requirePhase, Cond.code yX1_requirePhase cX1_requirePhase 2 none, Cond.methodLink RX1 120 yX1_countVotes, Cond.instanceMethod yX1_countVotes, Cond.selects RX1 yX1_countVotes yX1_countVotes, Cond.code yX1_countVotes cX1_countVotes 7 (some .int), Cond.methodLink RL 113 yX2_vote, Cond.instanceMethod yX2_vote]
def wsL_law0_r12 : List Cond := [Cond.selects RX2 yX2_vote yX2_vote, Cond.code yX2_vote cX2_vote 3 (some .int), Cond.methodLink RX2 101 yX2_manyVotes, Cond.instanceMethod yX2_manyVotes, Cond.selects RX2 yX2_manyVotes yX2_manyVotes, Cond.code yX2_manyVotes cX2_manyVotes 4 (some .int), Cond.methodLink RL 114 yL_closeVote, Cond.static yL_closeVote, Cond.codeWith yL_closeVote cL_closeVote 3 (some .int) [(0, 8, 11, 19)], Cond.methodLink RL 32 yX1_closeVote, Cond.instanceMethod yX1_closeVote, Cond.selects RX1 yX1_closeVote yX1_closeVote, Cond.code yX1_closeVote cX1_closeVote 2 (some .int), Cond.methodLink RX1 123 yX1_playerWithMostVotes, Cond.instanceMethod yX1_playerWithMostVotes, Cond.selects RX1 yX1_playerWithMostVotes yX1_playerWithMostVotes, Cond.code yX1_playerWithMostVotes cX1_playerWithMostVotes 5 (some .int), Cond.methodLink RX1 127 yX1_die, Cond.instanceMethod yX1_die, Cond.selects RX1 yX1_die yX1_die, Cond.code yX1_die cX1_die 4 none, Cond.methodLink RL 117 yX2_closeVote, Cond.instanceMethod yX2_closeVote, Cond.selects RX2 yX2_closeVote yX2_closeVote]
def wsL_law0_r13 : List Cond := [Cond.code yX2_closeVote cX2_closeVote 5 (some .int), Cond.methodLink RX2 104 yX2_dies, Cond.instanceMethod yX2_dies, Cond.selects RX2 yX2_dies yX2_dies, Cond.code yX2_dies cX2_dies 4 none, Cond.methodLink RL 118 yL_protect, Cond.static yL_protect, Cond.codeWith yL_protect cL_protect 4 (some .int) [(0, 9, 12, 19), (0, 9, 15, 21), (0, 9, 18, 13)], Cond.methodLink RL 36 yX1_protect, Cond.instanceMethod yX1_protect, Cond.selects RX1 yX1_protect yX1_protect, Cond.code yX1_protect cX1_protect 3 (some .int), Cond.methodLink RX1 130 yX1_requireToLive, Cond.instanceMethod yX1_requireToLive, Cond.selects RX1 yX1_requireToLive yX1_requireToLive, Cond.code yX1_requireToLive cX1_requireToLive 2 none, Cond.methodLink RL 121 yX2_protect, Cond.instanceMethod yX2_protect, Cond.selects RX2 yX2_protect yX2_protect, Cond.code yX2_protect cX2_protect 3 (some .int), Cond.methodLink RL 122 yL_attack, Cond.static yL_attack, Cond.codeWith yL_attack cL_attack 4 (some .int) [(0, 9, 12, 19), (0, 9, 15, 21), (0, 9, 18, 13)], Cond.methodLink RL 40 yX1_attack]
def wsL_law0_r14 : List Cond := [Cond.instanceMethod yX1_attack, Cond.selects RX1 yX1_attack yX1_attack, Cond.code yX1_attack cX1_attack 3 (some .int), Cond.methodLink RL 124 yX2_attack, Cond.instanceMethod yX2_attack, Cond.selects RX2 yX2_attack yX2_attack, Cond.code yX2_attack cX2_attack 3 (some .int), Cond.methodLink RL 125 yL_look, Cond.static yL_look, Cond.codeWith yL_look cL_look 4 (some .int) [(0, 9, 12, 19), (0, 9, 15, 21), (0, 9, 18, 13)], Cond.methodLink RL 43 yX1_look, Cond.instanceMethod yX1_look, Cond.selects RX1 yX1_look yX1_look, Cond.code yX1_look cX1_look 3 (some .int), Cond.methodLink RL 127 yX2_look, Cond.instanceMethod yX2_look, Cond.selects RX2 yX2_look yX2_look, Cond.code yX2_look cX2_look 3 (some .int), Cond.methodLink RL 128 yL_endNight, Cond.static yL_endNight, Cond.codeWith yL_endNight cL_endNight 3 (some .int) [(0, 8, 11, 19)], Cond.methodLink RL 46 yX1_endNight, Cond.instanceMethod yX1_endNight, Cond.selects RX1 yX1_endNight yX1_endNight]
def wsL_law0_r15 : List Cond := [Cond.code yX1_endNight cX1_endNight 2 (some .int), Cond.methodLink RX1 142 yX1_seerLooks, Cond.instanceMethod yX1_seerLooks, Cond.selects RX1 yX1_seerLooks yX1_seerLooks, Cond.code yX1_seerLooks cX1_seerLooks 1 none, Cond.methodLink RL 130 yX2_endNight, Cond.instanceMethod yX2_endNight, Cond.selects RX2 yX2_endNight yX2_endNight, Cond.code yX2_endNight cX2_endNight 2 (some .int), Cond.methodLink RL 131 yL_day, Cond.static yL_day, Cond.codeWith yL_day cL_day 3 (some .int) [(0, 8, 11, 19)], Cond.methodLink RL 49 yX1_day, Cond.instanceMethod yX1_day, Cond.selects RX1 yX1_day yX1_day, Cond.code yX1_day cX1_day 1 (some .int), Cond.methodLink RL 133 yX2_day, Cond.instanceMethod yX2_day, Cond.selects RX2 yX2_day yX2_day, Cond.code yX2_day cX2_day 1 (some .int), Cond.methodLink RX2 108 yX2_isGame, Cond.instanceMethod yX2_isGame, Cond.selects RX2 yX2_isGame yX2_isGame, Cond.code yX2_isGame cX2_isGame 1 (some .boolean)]
def wsL_law0_r16 : List Cond := [Cond.methodLink RL 134 yL_alive, Cond.static yL_alive, Cond.codeWith yL_alive cL_alive 3 (some .int) [(0, 8, 11, 19)], Cond.methodLink RL 52 yX1_alive, Cond.instanceMethod yX1_alive, Cond.selects RX1 yX1_alive yX1_alive, Cond.code yX1_alive cX1_alive 1 (some .int), Cond.methodLink RL 136 yX2_alive, Cond.instanceMethod yX2_alive, Cond.selects RX2 yX2_alive yX2_alive, Cond.code yX2_alive cX2_alive 1 (some .int), Cond.methodLink RL 137 yL_votesFor, Cond.static yL_votesFor, Cond.codeWith yL_votesFor cL_votesFor 4 (some .int) [(0, 9, 12, 19), (0, 9, 15, 21)], Cond.methodLink RL 55 yX1_votesFor, Cond.instanceMethod yX1_votesFor, Cond.selects RX1 yX1_votesFor yX1_votesFor, Cond.code yX1_votesFor cX1_votesFor 2 (some .int), Cond.methodLink RL 139 yX2_votesFor, Cond.instanceMethod yX2_votesFor, Cond.selects RX2 yX2_votesFor yX2_votesFor, Cond.code yX2_votesFor cX2_votesFor 2 (some .int), Cond.methodLink RL 140 yL_lookedAt, Cond.static yL_lookedAt]
def wsL_law0_r17 : List Cond := [Cond.codeWith yL_lookedAt cL_lookedAt 3 (some .int) [(0, 8, 11, 19)], Cond.methodLink RL 58 yX1_lookedAt, Cond.instanceMethod yX1_lookedAt, Cond.selects RX1 yX1_lookedAt yX1_lookedAt, Cond.code yX1_lookedAt cX1_lookedAt 1 (some .int), Cond.methodLink RL 142 yX2_lookedAt, Cond.instanceMethod yX2_lookedAt, Cond.selects RX2 yX2_lookedAt yX2_lookedAt, Cond.code yX2_lookedAt cX2_lookedAt 1 (some .int), Cond.methodLink RL 143 yL_worlds, Cond.static yL_worlds, Cond.codeWith yL_worlds cL_worlds 4 (some .int) [(0, 9, 12, 19), (0, 9, 15, 21)], Cond.methodLink RL 61 yX1_worlds, Cond.instanceMethod yX1_worlds, Cond.selects RX1 yX1_worlds yX1_worlds, Cond.code yX1_worlds cX1_worlds 2 (some .int), Cond.methodLink RX1 145 yX1_requireViewer, Cond.instanceMethod yX1_requireViewer, Cond.selects RX1 yX1_requireViewer yX1_requireViewer, Cond.code yX1_requireViewer cX1_requireViewer 2 none, Cond.methodLink RL 145 yX2_worlds, Cond.instanceMethod yX2_worlds, Cond.selects RX2 yX2_worlds yX2_worlds, Cond.code yX2_worlds cX2_worlds 2 (some .int)]
def wsL_law0_r18 : List Cond := [Cond.methodLink RX2 118 yX2_asks, Cond.instanceMethod yX2_asks, Cond.selects RX2 yX2_asks yX2_asks, Cond.code yX2_asks cX2_asks 2 (some .boolean), Cond.methodLink RX2 112 yX2_isViewer, Cond.instanceMethod yX2_isViewer, Cond.selects RX2 yX2_isViewer yX2_isViewer, Cond.code yX2_isViewer cX2_isViewer 2 (some .boolean), Cond.methodLink RX2 121 yX2_manyFor, Cond.instanceMethod yX2_manyFor, Cond.selects RX2 yX2_manyFor yX2_manyFor, Cond.code yX2_manyFor cX2_manyFor 4 (some .int), Cond.methodLink RX2 115 yX2_isFor, Cond.instanceMethod yX2_isFor, Cond.selects RX2 yX2_isFor yX2_isFor, Cond.code yX2_isFor cX2_isFor 5 (some .boolean), Cond.methodLink RL 146 yL_worldsWith, Cond.static yL_worldsWith, Cond.codeWith yL_worldsWith cL_worldsWith 6 (some .int) [(0, 12, 15, 19), (0, 12, 19, 21), (0, 12, 23, 13)], Cond.methodLink RL 64 yX1_worldsWith, Cond.instanceMethod yX1_worldsWith, Cond.selects RX1 yX1_worldsWith yX1_worldsWith, Cond.code yX1_worldsWith cX1_worldsWith 4 (some .int), Cond.instanceMethod yX0_countWithRole]
def wsL_law0_r19 : List Cond := [Cond.selects RX0 yX0_countWithRole yX0_countWithRole, Cond.code yX0_countWithRole cX0_countWithRole 8 (some .int), Cond.methodLink RL 148 yX2_worldsWith, Cond.instanceMethod yX2_worldsWith, Cond.selects RX2 yX2_worldsWith yX2_worldsWith, Cond.code yX2_worldsWith cX2_worldsWith 4 (some .int), Cond.methodLink RX2 124 yX2_manyWith, Cond.instanceMethod yX2_manyWith, Cond.selects RX2 yX2_manyWith yX2_manyWith, Cond.code yX2_manyWith cX2_manyWith 6 (some .int), Cond.methodLink RL 149 yL_sureWitches, Cond.static yL_sureWitches, Cond.codeWith yL_sureWitches cL_sureWitches 4 (some .int) [(0, 9, 12, 19), (0, 9, 15, 21)], Cond.methodLink RL 67 yX1_sureWitches, Cond.instanceMethod yX1_sureWitches, Cond.selects RX1 yX1_sureWitches yX1_sureWitches, Cond.code yX1_sureWitches cX1_sureWitches 2 (some .int), Cond.instanceMethod yX0_witchesInAll, Cond.selects RX0 yX0_witchesInAll yX0_witchesInAll, Cond.code yX0_witchesInAll cX0_witchesInAll 4 (some .int), Cond.methodLink RL 151 yX2_sureWitches, Cond.instanceMethod yX2_sureWitches, Cond.selects RX2 yX2_sureWitches yX2_sureWitches, Cond.code yX2_sureWitches cX2_sureWitches 2 (some .int)]
def wsL_law0_r20 : List Cond := [Cond.methodLink RX2 128 yX2_inSome, Cond.instanceMethod yX2_inSome, Cond.selects RX2 yX2_inSome yX2_inSome, Cond.code yX2_inSome cX2_inSome 5 (some .int), Cond.methodLink RL 152 yL_sureHonest, Cond.static yL_sureHonest, Cond.codeWith yL_sureHonest cL_sureHonest 4 (some .int) [(0, 9, 12, 19), (0, 9, 15, 21)], Cond.methodLink RL 70 yX1_sureHonest, Cond.instanceMethod yX1_sureHonest, Cond.selects RX1 yX1_sureHonest yX1_sureHonest, Cond.code yX1_sureHonest cX1_sureHonest 2 (some .int), Cond.instanceMethod yX0_witchesInAny, Cond.selects RX0 yX0_witchesInAny yX0_witchesInAny, Cond.code yX0_witchesInAny cX0_witchesInAny 4 (some .int), Cond.methodLink RL 154 yX2_sureHonest, Cond.instanceMethod yX2_sureHonest, Cond.selects RX2 yX2_sureHonest yX2_sureHonest, Cond.code yX2_sureHonest cX2_sureHonest 2 (some .int), Cond.methodLink RL 155 yL_witchSets, Cond.static yL_witchSets, Cond.codeWith yL_witchSets cL_witchSets 4 (some .int) [(0, 9, 12, 19), (0, 9, 15, 21)], Cond.methodLink RL 73 yX1_witchSets, Cond.instanceMethod yX1_witchSets, Cond.selects RX1 yX1_witchSets yX1_witchSets]
def wsL_law0_r21 : List Cond := [Cond.code yX1_witchSets cX1_witchSets 2 (some .int), Cond.instanceMethod yX0_countWitchSets, Cond.selects RX0 yX0_countWitchSets yX0_countWitchSets, Cond.code yX0_countWitchSets cX0_countWitchSets 5 (some .int), Cond.methodLink RL 157 yX2_witchSets, Cond.instanceMethod yX2_witchSets, Cond.selects RX2 yX2_witchSets yX2_witchSets, Cond.code yX2_witchSets cX2_witchSets 6 (some .int), Cond.methodLink RL 158 yL_suspect, Cond.static yL_suspect, Cond.codeWith yL_suspect cL_suspect 4 (some .int) [(0, 9, 12, 19), (0, 9, 15, 21)], Cond.methodLink RL 76 yX1_suspect, Cond.instanceMethod yX1_suspect, Cond.selects RX1 yX1_suspect yX1_suspect, Cond.code yX1_suspect cX1_suspect 7 (some .int), Cond.methodLink RL 160 yX2_suspect, Cond.instanceMethod yX2_suspect, Cond.selects RX2 yX2_suspect yX2_suspect, Cond.code yX2_suspect cX2_suspect 4 (some .int), Cond.methodLink RX2 132 yX2_laysWitches, Cond.instanceMethod yX2_laysWitches, Cond.selects RX2 yX2_laysWitches yX2_laysWitches, Cond.code yX2_laysWitches cX2_laysWitches 3 none, Cond.methodLink RL 161 yL_bestLook]
def wsL_law0_r22 : List Cond := [Cond.static yL_bestLook, Cond.codeWith yL_bestLook cL_bestLook 3 (some .int) [(0, 8, 11, 19)], Cond.methodLink RL 79 yX1_bestLook, Cond.instanceMethod yX1_bestLook, Cond.selects RX1 yX1_bestLook yX1_bestLook, Cond.code yX1_bestLook cX1_bestLook 8 (some .int), Cond.methodLink RX1 162 Lib.Math.max.name, Cond.static Lib.Math.max.name, Cond.initialized "java/lang/Math", Cond.code Lib.Math.max.name Lib.Math.max.code 2 (some .int), Cond.methodLink RL 163 yX2_bestLook, Cond.instanceMethod yX2_bestLook, Cond.selects RX2 yX2_bestLook yX2_bestLook, Cond.code yX2_bestLook cX2_bestLook 6 (some .int), Cond.methodLink RL 164 yL_isPossible, Cond.static yL_isPossible, Cond.codeWith yL_isPossible cL_isPossible 7 (some .int) [(0, 21, 24, 19), (0, 21, 28, 21)], Cond.methodLink RL 82 yX1_isPossible, Cond.instanceMethod yX1_isPossible, Cond.selects RX1 yX1_isPossible yX1_isPossible, Cond.code yX1_isPossible cX1_isPossible 5 (some .boolean), Cond.instanceMethod yX0_contains, Cond.selects RX0 yX0_contains yX0_contains, Cond.code yX0_contains cX0_contains 4 (some .boolean)]
def wsL_law0_r23 : List Cond := [Cond.methodLink RL 166 yX2_isPossible, Cond.instanceMethod yX2_isPossible, Cond.selects RX2 yX2_isPossible yX2_isPossible, Cond.code yX2_isPossible cX2_isPossible 6 (some .boolean)]
def wsL_law0 : List Cond := (wsL_law0_r1 ++ (wsL_law0_r2 ++ (wsL_law0_r3 ++ (wsL_law0_r4 ++ (wsL_law0_r5 ++ (wsL_law0_r6 ++ (wsL_law0_r7 ++ (wsL_law0_r8 ++ (wsL_law0_r9 ++ (wsL_law0_r10 ++ (wsL_law0_r11 ++ (wsL_law0_r12 ++ (wsL_law0_r13 ++ (wsL_law0_r14 ++ (wsL_law0_r15 ++ (wsL_law0_r16 ++ (wsL_law0_r17 ++ (wsL_law0_r18 ++ (wsL_law0_r19 ++ (wsL_law0_r20 ++ (wsL_law0_r21 ++ (wsL_law0_r22 ++ wsL_law0_r23)))))))))))))))))))))) ++ wsX10 ++ wsX20 ++ wsX00 ++ ([] : List Cond)
def wsL_law : List Cond := wsL_law0 ++ (vx_atS RX1 44 "java/lang/IllegalArgumentException" ["java/lang/RuntimeException", "java/lang/Exception"]).filter goodWord ++ (vx_atS RX1 175 "java/lang/IllegalStateException" ["java/lang/RuntimeException", "java/lang/Exception"]).filter goodWord ++ (vx_atS RX1 184 "java/lang/IndexOutOfBoundsException" ["java/lang/RuntimeException", "java/lang/Exception"]).filter goodWord ++ (vx_atS RX1 205 "java/util/NoSuchElementException" ["java/lang/RuntimeException", "java/lang/Exception"]).filter goodWord
abbrev vwCl : List vw_C := [(RX0, TX0, 2), (RX1, TX1, 14), (RX2, TX2, 16)]
end
section
/-! the base: what all contracts here share. Kinds of contracts: Rd (reads, answers an int), Rv (reads, answers nothing), Mi, Mv (change the world), Tx (throws, the world as it was) -/
def bI (b : Bool) : Int32 := if b = true then 1 else 0
theorem bI_t : bI true = 1 := rfl
theorem bI_f : bI false = 0 := rfl
theorem bI_0 {b : Bool} (h : bI b = 0) : b = false := by
  cases b
  · rfl
  · exact absurd h (by decide)
theorem bI_1 {b : Bool} (h : ¬ bI b = 0) : b = true := by
  cases b
  · exact absurd rfl h
  · rfl
theorem bI_nar (b : Bool) : narrow .boolean (.int (bI b)) = .int (bI b) := by cases b <;> rfl
theorem bI_vnar (b : Bool) : vp_nar .boolean (bI b) = bI b := by cases b <;> rfl
abbrev tys9 (cI cZ cJ : ClassId) : List (ClassId × FieldType) := [(cI, .int), (cZ, .boolean), (cJ, .long)]
/-- the links to private members of a nest mate -/
def nlL : List (String × Nat × MethodName) := [(RX1, 11, yX0_init), (RX1, 82, yX0_open), (RX0, 25, yX1_witchesOf), (RX0, 34, yX1_everyone), (RX0, 41, yX1_isHonestIn), (RX0, 45, yX1_worldOf), (RX1, 89, yX0_count), (RX1, 197, yX0_allowsClaim), (RX0, 48, yX1_setOf), (RX1, 206, yX0_keepClaim), (RX1, 150, yX0_countWithRole), (RX0, 59, yX1_roleBits), (RX0, 62, yX1_bitOfRole), (RX1, 153, yX0_witchesInAll), (RX1, 156, yX0_witchesInAny), (RX1, 159, yX0_countWitchSets), (RX1, 167, yX0_contains)]
/-- the texts of the exceptions -/
def nlS : List (Nat × String) := [(42, "these roles cannot be dealt"), (99, "there is no such kind of claim"), (109, "the set has a player who does not exist"), (118, "the dead neither vote nor are voted for"), (133, "the guard cannot protect this player"), (138, "the witches cannot attack this player"), (140, "the seer cannot look at this player"), (148, "there is no such role"), (173, "there is no game"), (176, "it is not the time for this"), (178, "who would have to do this is dead"), (182, "there is no such player"), (203, "this player cannot claim this now")]
def nlC : List String := ["java/lang/IllegalStateException", "java/lang/IndexOutOfBoundsException", "java/lang/IllegalArgumentException", "java/util/NoSuchElementException"]
/-- the words that no list of a method holds: they speak of the classes alone -/
def NM (U : State) : Prop := (∀ q ∈ nlL, va_Nw (.methodLinkNest q.1 q.2.1 q.2.2 RX1) U) ∧ (∀ q ∈ nlS, ∃ sa : Nat, vk_R RX1 q.1 q.2 sa U) ∧ ∀ x ∈ nlC, va_Nw (.castable x x) U
theorem NM.same {u U : State} (h : u.vm = U.vm) (k : NM u) : NM U :=
  ⟨fun q hq => va_Nw.same rfl h (k.1 q hq), fun q hq => by obtain ⟨sa, h1⟩ := k.2.1 q hq; exact ⟨sa, vk_R.same h.symm h1⟩, fun x hx => va_Nw.same rfl h (k.2.2 x hx)⟩
theorem NM.warm {s U : State} (hW : s.WarmedH U.vm) (k : NM s) : NM U :=
  ⟨fun q hq => va_Nw.warmM hW (k.1 q hq), fun q hq => by obtain ⟨sa, h1⟩ := k.2.1 q hq; exact ⟨sa, vk_R.warm hW h1⟩, fun x hx => va_Nw.warmC hW (k.2.2 x hx)⟩
theorem NM.link {s : State} (k : NM s) (i : Nat) {q : String × Nat × MethodName} (h : nlL[i]? = some q) : va_Nw (.methodLinkNest q.1 q.2.1 q.2.2 RX1) s := k.1 q (List.mem_of_getElem? h)
/-- the static fields of Throwable that a throw reads -/
def ZQ (A : Nat → Prop) (U : State) (H : Heap) : Prop := vx_Zq Bundle.tN "UNASSIGNED_STACK" Bundle.steD A U H ∧ vx_Zq Bundle.tN "SUPPRESSED_SENTINEL" Bundle.listD A U H
theorem ZQ.moved {A : Nat → Prop} {u U : State} {H : Heap} (hvm : u.vm.Alike U.vm) (h : ZQ A u H) : ZQ A U H := ⟨vx_Zq.moved hvm h.1, vx_Zq.moved hvm h.2⟩
theorem ZQ.kept {A : Nat → Prop} {U : State} {H H1 : Heap} (h : ZQ A U H) (hq : ∀ a : Nat, a < H.size → ¬ A a → H1[a]? = H[a]?) : ZQ A U H1 := ⟨vx_Zq.kept h.1 hq, vx_Zq.kept h.2 hq⟩
theorem ZQ.narrow {A B : Nat → Prop} {U : State} {H : Heap} (h : ZQ A U H) (hAB : ∀ q, B q → A q) : ZQ B U H := ⟨vx_Zq.narrow h.1 hAB, vx_Zq.narrow h.2 hAB⟩
theorem ZQ.S {A : Nat → Prop} {s : State} {H : Heap} {locs : List Loc} (h : ZQ A s s.heap) (hS : va_S A s.heap H locs) : ZQ A s H := h.kept hS.2.1
abbrev rmR (fr lo : Nat) : Room := { frames := fr, cells := 0, slots := 0, locals := lo }
abbrev rmX (fr lo : Nat) : Room := { frames := fr, cells := 1, slots := 6, locals := lo }
def RB (D : va_G) (cI cZ cJ : ClassId) (W0 : va_W) (U : State) : Prop := va_P D vwCl W0 U.heap ∧ va_K D vwCl (tys9 cI cZ cJ) U ∧ NM U
def MB (D : va_G) (cI cZ cJ : ClassId) (W0 : va_W) (sz : Nat) (U : State) : Prop := U.heap.size = sz ∧ va_P D vwCl W0 U.heap ∧ va_K D vwCl (tys9 cI cZ cJ) U ∧ NM U ∧ va_D (fun _ => True) W0
def XB (D : va_G) (cI cZ cJ : ClassId) (W0 : va_W) (sz : Nat) (U : State) : Prop := MB D cI cZ cJ W0 sz U ∧ ZQ (va_A W0 sz) U U.heap
theorem RB.blind {D : va_G} {cI cZ cJ : ClassId} {W0 : va_W} {av : List Value} : FrameBlind (va_Pc av (RB D cI cZ cJ W0)) := fun a U g mk q => ⟨q.1, q.2.1, va_K.moved (u := U) (U := U.calling g mk a) (Vm.Alike.refl U.vm) q.2.2.1, NM.same (u := U) rfl q.2.2.2⟩
theorem MB.blind {D : va_G} {cI cZ cJ : ClassId} {W0 : va_W} {sz : Nat} {av : List Value} : FrameBlind (va_Pc av (MB D cI cZ cJ W0 sz)) := fun a U g mk q => ⟨q.1, q.2.1, q.2.2.1, va_K.moved (u := U) (U := U.calling g mk a) (Vm.Alike.refl U.vm) q.2.2.2.1, NM.same (u := U) rfl q.2.2.2.2.1, q.2.2.2.2.2⟩
theorem XB.blind {D : va_G} {cI cZ cJ : ClassId} {W0 : va_W} {sz : Nat} {av : List Value} : FrameBlind (va_Pc av (XB D cI cZ cJ W0 sz)) := fun a U g mk q => ⟨q.1, ⟨q.2.1.1, q.2.1.2.1, va_K.moved (u := U) (U := U.calling g mk a) (Vm.Alike.refl U.vm) q.2.1.2.2.1, NM.same (u := U) rfl q.2.1.2.2.2.1, q.2.1.2.2.2.2⟩, ZQ.moved (u := U) (U := U.calling g mk a) (Vm.Alike.refl U.vm) q.2.2⟩
def QcV : Array Value → State → Outcome → State → Prop := fun _ st o t => o = .returned none ∧ t.heap = st.heap
/-- reads its world, answers v -/
def Rd (l : Launch) (D : va_G) (cI cZ cJ : ClassId) (y : MethodName) (ws : List Cond) (fr lo : Nat) (av : List Value) (W0 : va_W) (v : Int32) : Prop := Met l y ws (rmR fr lo) (va_Pc av (RB D cI cZ cJ W0)) (vp_Si (fun r => r = v)) 0 0 (fun _ => False)
/-- reads its world, answers nothing -/
def Rv (l : Launch) (D : va_G) (cI cZ cJ : ClassId) (y : MethodName) (ws : List Cond) (fr lo : Nat) (av : List Value) (W0 : va_W) : Prop := Met l y ws (rmR fr lo) (va_Pc av (RB D cI cZ cJ W0)) QcV 0 0 (fun _ => False)
/-- makes W1 of the world W0, answers v -/
def Mi (l : Launch) (D : va_G) (cI cZ cJ : ClassId) (y : MethodName) (ws : List Cond) (fr lo sz : Nat) (av : List Value) (W0 W1 : va_W) (v : Int32) : Prop := Met l y ws (rmR fr lo) (va_Pc av (MB D cI cZ cJ W0 sz)) (va_Qi (fun r (_ : Unit) => r = v) (fun _ t => va_P D vwCl W1 t.heap) (va_A W0 sz)) 0 0 (va_A W0 sz)
/-- makes W1 of the world W0, answers nothing -/
def Mv (l : Launch) (D : va_G) (cI cZ cJ : ClassId) (y : MethodName) (ws : List Cond) (fr lo sz : Nat) (av : List Value) (W0 W1 : va_W) : Prop := Met l y ws (rmR fr lo) (va_Pc av (MB D cI cZ cJ W0 sz)) (va_Qv (fun (_ : Unit) => True) (fun _ t => va_P D vwCl W1 t.heap) (va_A W0 sz)) 0 0 (va_A W0 sz)
def xnm (k : Int32) : String := if k = 1 then "java/lang/IllegalStateException" else if k = 2 then "java/lang/IndexOutOfBoundsException" else if k = 3 then "java/lang/IllegalArgumentException" else "java/util/NoSuchElementException"
/-- throws the exception xnm k, its world as it was -/
def Tx (l : Launch) (D : va_G) (cI cZ cJ : ClassId) (y : MethodName) (ws : List Cond) (fr lo sz : Nat) (av : List Value) (W0 : va_W) (k : Int32) : Prop := vx_Met l y ws (rmX fr lo) (va_Pc av (XB D cI cZ cJ W0 sz)) (fun _ _ _ _ => False) (vx_X (fun (_ : Unit) => True) (fun E _ t => E = xnm k ∧ va_P D vwCl W0 t.heap) (va_A W0 sz)) 1 6 (va_A W0 sz)

section BaseOf
variable {l : Launch} {D : va_G} {cI cZ cJ : ClassId} {y : MethodName} {ws ws' : List Cond} {fr lo : Nat} {av : List Value} {W0 W1 : va_W} {v : Int32} {cc : ByteArray} {maxL : Nat} {ret : Option FieldType}
theorem rd_of (hy : plainName y.cls = true) (hw : ws = Cond.code y cc maxL ret :: ws') (hav : (lg_sl av).length ≤ maxL)
    (body : ∀ (p : Program) (e : Env) (s : State) (m : MethodId) (below : List Frame) (meth : Method) (c : Code) (ls : Array Slot), p.tables.exec = Jvm.exec → c.code = cc → meth.sig.returnType = ret → c.maxLocals = maxL → (∀ w ∈ ws, w.before av.toArray s = true) → s.vm.findClass y.cls = some m.cls → meth.locks = false → va_P D vwCl W0 s.heap → va_K D vwCl (tys9 cI cZ cJ) s → NM s → lv_has ls maxL (lv_args 0 av) →
      W p l e (rmR fr lo) s m av.toArray below meth c s.heap [] 0 0 (MQ below (vp_Si (fun r => r = v)) av.toArray s 0 0 (fun _ => False)) (F0 m 0 ls [])) : Rd l D cI cZ cJ y ws fr lo av W0 v := by
  refine Met.ofW (cc := cc) (maxL := maxL) (ret := ret) hy hw ?_
  intro p e s m args below meth c s₁ B hml hv
  obtain ⟨rfl, hP, hK, hN⟩ := hv
  have hl := lv_entry av (n := maxL) hav
  rw [lg_entry_eq]
  exact body p e s m below meth c _ B.exec B.bytes B.returns hml (atoms_spec (ws := ws) B.pre) (findClass_of_methodNamed B.named) B.notSynchronized hP hK hN hl
theorem rv_of (hy : plainName y.cls = true) (hw : ws = Cond.code y cc maxL none :: ws') (hav : (lg_sl av).length ≤ maxL)
    (body : ∀ (p : Program) (e : Env) (s : State) (m : MethodId) (below : List Frame) (meth : Method) (c : Code) (ls : Array Slot), p.tables.exec = Jvm.exec → c.code = cc → meth.sig.returnType = none → c.maxLocals = maxL → (∀ w ∈ ws, w.before av.toArray s = true) → s.vm.findClass y.cls = some m.cls → meth.locks = false → va_P D vwCl W0 s.heap → va_K D vwCl (tys9 cI cZ cJ) s → NM s → lv_has ls maxL (lv_args 0 av) →
      W p l e (rmR fr lo) s m av.toArray below meth c s.heap [] 0 0 (MQ below QcV av.toArray s 0 0 (fun _ => False)) (F0 m 0 ls [])) : Rv l D cI cZ cJ y ws fr lo av W0 := by
  refine Met.ofW (cc := cc) (maxL := maxL) (ret := none) hy hw ?_
  intro p e s m args below meth c s₁ B hml hv
  obtain ⟨rfl, hP, hK, hN⟩ := hv
  have hl := lv_entry av (n := maxL) hav
  rw [lg_entry_eq]
  exact body p e s m below meth c _ B.exec B.bytes B.returns hml (atoms_spec (ws := ws) B.pre) (findClass_of_methodNamed B.named) B.notSynchronized hP hK hN hl
theorem mi_of {sz : Nat} (hy : plainName y.cls = true) (hw : ws = Cond.code y cc maxL ret :: ws') (hav : (lg_sl av).length ≤ maxL)
    (body : ∀ (p : Program) (e : Env) (s : State) (m : MethodId) (below : List Frame) (meth : Method) (c : Code) (ls : Array Slot) (A : Nat → Prop), p.tables.exec = Jvm.exec → c.code = cc → meth.sig.returnType = ret → c.maxLocals = maxL → (∀ w ∈ ws, w.before av.toArray s = true) → s.vm.findClass y.cls = some m.cls → meth.locks = false → (meth.name = y.name) → va_P D vwCl W0 s.heap → va_K D vwCl (tys9 cI cZ cJ) s → NM s → va_D A W0 → (∀ q : Nat, s.heap.size ≤ q → A q) → va_S A s.heap s.heap [] → lv_has ls maxL (lv_args 0 av) →
      W p l e (rmR fr lo) s m av.toArray below meth c s.heap [] 0 0 (MQ below (va_Qi (fun r (_ : Unit) => r = v) (fun _ t => va_P D vwCl W1 t.heap) A) av.toArray s 0 0 A) (F0 m 0 ls [])) : Mi l D cI cZ cJ y ws fr lo sz av W0 W1 v := by
  refine Met.ofW (cc := cc) (maxL := maxL) (ret := ret) hy hw ?_
  intro p e s m args below meth c s₁ B hml hv
  obtain ⟨rfl, hsz, hP, hK, hN, hD0⟩ := hv
  subst hsz
  have hl := lv_entry av (n := maxL) hav
  rw [lg_entry_eq]
  exact body p e s m below meth c _ _ B.exec B.bytes B.returns hml (atoms_spec (ws := ws) B.pre) (findClass_of_methodNamed B.named) B.notSynchronized (name_of_methodNamed B.named B.method).1 hP hK hN (hD0.self (sz := s.heap.size)) (fun q h => Or.inr h) va_S.rf hl
theorem mv_of {sz : Nat} (hy : plainName y.cls = true) (hw : ws = Cond.code y cc maxL none :: ws') (hav : (lg_sl av).length ≤ maxL)
    (body : ∀ (p : Program) (e : Env) (s : State) (m : MethodId) (below : List Frame) (meth : Method) (c : Code) (ls : Array Slot) (A : Nat → Prop), p.tables.exec = Jvm.exec → c.code = cc → meth.sig.returnType = none → c.maxLocals = maxL → (∀ w ∈ ws, w.before av.toArray s = true) → s.vm.findClass y.cls = some m.cls → meth.locks = false → (meth.name = y.name) → va_P D vwCl W0 s.heap → va_K D vwCl (tys9 cI cZ cJ) s → NM s → va_D A W0 → (∀ q : Nat, s.heap.size ≤ q → A q) → va_S A s.heap s.heap [] → lv_has ls maxL (lv_args 0 av) →
      W p l e (rmR fr lo) s m av.toArray below meth c s.heap [] 0 0 (MQ below (va_Qv (fun (_ : Unit) => True) (fun _ t => va_P D vwCl W1 t.heap) A) av.toArray s 0 0 A) (F0 m 0 ls [])) : Mv l D cI cZ cJ y ws fr lo sz av W0 W1 := by
  refine Met.ofW (cc := cc) (maxL := maxL) (ret := none) hy hw ?_
  intro p e s m args below meth c s₁ B hml hv
  obtain ⟨rfl, hsz, hP, hK, hN, hD0⟩ := hv
  subst hsz
  have hl := lv_entry av (n := maxL) hav
  rw [lg_entry_eq]
  exact body p e s m below meth c _ _ B.exec B.bytes B.returns hml (atoms_spec (ws := ws) B.pre) (findClass_of_methodNamed B.named) B.notSynchronized (name_of_methodNamed B.named B.method).1 hP hK hN (hD0.self (sz := s.heap.size)) (fun q h => Or.inr h) va_S.rf hl
theorem tx_of {sz : Nat} {k : Int32} (hy : plainName y.cls = true) (hw : ws = Cond.code y cc maxL ret :: ws') (hav : (lg_sl av).length ≤ maxL)
    (body : ∀ (p : Program) (e : Env) (s : State) (m : MethodId) (below : List Frame) (meth : Method) (c : Code) (ls : Array Slot) (A : Nat → Prop), p.tables.exec = Jvm.exec → c.code = cc → meth.sig.returnType = ret → c.maxLocals = maxL → (∀ w ∈ ws, w.before av.toArray s = true) → s.vm.findClass y.cls = some m.cls → meth.locks = false → (∀ x ∈ c.exceptionTable.toList, False) → va_P D vwCl W0 s.heap → va_K D vwCl (tys9 cI cZ cJ) s → NM s → va_D A W0 → (∀ q : Nat, s.heap.size ≤ q → A q) → va_S A s.heap s.heap [] → ZQ A s s.heap → lv_has ls maxL (lv_args 0 av) →
      W p l e (rmX fr lo) s m av.toArray below meth c s.heap [] 0 0 (vx_MQ below (fun _ _ _ _ => False) (vx_X (fun (_ : Unit) => True) (fun E _ t => E = xnm k ∧ va_P D vwCl W0 t.heap) A) av.toArray s 1 6 A) (F0 m 0 ls [])) : Tx l D cI cZ cJ y ws fr lo sz av W0 k := by
  refine vx_ofW (cc := cc) (maxL := maxL) (ret := ret) hy hw ?_
  intro p e s m args below meth c s₁ B hml ht hv
  obtain ⟨rfl, ⟨hsz, hP, hK, hN, hD0⟩, hZ⟩ := hv
  subst hsz
  have hl := lv_entry av (n := maxL) hav
  rw [lg_entry_eq]
  exact body p e s m below meth c _ _ B.exec B.bytes B.returns hml (atoms_spec (ws := ws) B.pre) (findClass_of_methodNamed B.named) B.notSynchronized ht hP hK hN (hD0.self (sz := s.heap.size)) (fun q h => Or.inr h) va_S.rf hZ hl
end BaseOf

section BaseRet
variable {p : Program} {l : Launch} {e : Env} {R : Room} {s : State} {m : MethodId} {args : Array Value} {below : List Frame} {meth : Method} {c : Code} {cc : ByteArray} {H : Heap} {locs : List Loc} {pc : Nat} {ls : Array Slot} {v v' : Int32} {D : va_G} {W1 : va_W} {A : Nat → Prop}
theorem rd_iret (hx : p.tables.exec = Jvm.exec) (hb : c.code = cc) (hr : meth.sig.returnType = some .int) (hlocks : meth.locks = false) (hp : v' = v) (hdg : decode cc pc = .ok (.ireturn, 1)) : W p l e R s m args below meth c s.heap [] 0 0 (MQ below (vp_Si (fun r => r = v)) args s 0 0 (fun _ => False)) (F0 m pc ls [.int v']) :=
  W.iret hx hb hr (fun t ht _ => ⟨v', rfl, hp, ht⟩) (fun q h => nomatch h) hdg hlocks
theorem rd_zret (hx : p.tables.exec = Jvm.exec) (hb : c.code = cc) (hr : meth.sig.returnType = some .boolean) (hlocks : meth.locks = false) (hp : v' = v) (hn : narrow .boolean (.int v') = .int v') (hdg : decode cc pc = .ok (.ireturn, 1)) : W p l e R s m args below meth c s.heap [] 0 0 (MQ below (vp_Si (fun r => r = v)) args s 0 0 (fun _ => False)) (F0 m pc ls [.int v']) :=
  W.zret hx hb hr hn (fun t ht _ => ⟨v', rfl, hp, ht⟩) (fun q h => nomatch h) hdg hlocks
theorem rv_ret (hx : p.tables.exec = Jvm.exec) (hb : c.code = cc) (hr : meth.sig.returnType = none) (hlocks : meth.locks = false) (hdg : decode cc pc = .ok (.return_, 1)) : W p l e R s m args below meth c s.heap [] 0 0 (MQ below QcV args s 0 0 (fun _ => False)) (F0 m pc ls []) :=
  W.vret hx hb hr (fun t ht _ => ⟨rfl, ht⟩) (fun q h => nomatch h) hdg hlocks
theorem mi_iret (hx : p.tables.exec = Jvm.exec) (hb : c.code = cc) (hr : meth.sig.returnType = some .int) (hlocks : meth.locks = false) (hS : va_S A s.heap H locs) (hp : v' = v) (hP : va_P D vwCl W1 H) (hdg : decode cc pc = .ok (.ireturn, 1)) : W p l e R s m args below meth c H locs 0 0 (MQ below (va_Qi (fun r (_ : Unit) => r = v) (fun _ t => va_P D vwCl W1 t.heap) A) args s 0 0 A) (F0 m pc ls [.int v']) :=
  W.iret hx hb hr (fun t ht _ => ⟨⟨v', (), rfl, hp, by rw [ht]; exact hP⟩, hS.F ht⟩) hS.2.2 hdg hlocks
theorem mi_zret (hx : p.tables.exec = Jvm.exec) (hb : c.code = cc) (hr : meth.sig.returnType = some .boolean) (hlocks : meth.locks = false) (hS : va_S A s.heap H locs) (hp : v' = v) (hn : narrow .boolean (.int v') = .int v') (hP : va_P D vwCl W1 H) (hdg : decode cc pc = .ok (.ireturn, 1)) : W p l e R s m args below meth c H locs 0 0 (MQ below (va_Qi (fun r (_ : Unit) => r = v) (fun _ t => va_P D vwCl W1 t.heap) A) args s 0 0 A) (F0 m pc ls [.int v']) :=
  W.zret hx hb hr hn (fun t ht _ => ⟨⟨v', (), rfl, hp, by rw [ht]; exact hP⟩, hS.F ht⟩) hS.2.2 hdg hlocks
theorem mv_ret (hx : p.tables.exec = Jvm.exec) (hb : c.code = cc) (hr : meth.sig.returnType = none) (hlocks : meth.locks = false) (hS : va_S A s.heap H locs) (hP : va_P D vwCl W1 H) (hdg : decode cc pc = .ok (.return_, 1)) : W p l e R s m args below meth c H locs 0 0 (MQ below (va_Qv (fun (_ : Unit) => True) (fun _ t => va_P D vwCl W1 t.heap) A) args s 0 0 A) (F0 m pc ls []) :=
  W.vret hx hb hr (fun t ht _ => ⟨⟨(), rfl, trivial, by rw [ht]; exact hP⟩, hS.F ht⟩) hS.2.2 hdg hlocks
end BaseRet

section BaseCalls
variable {p : Program} {l : Launch} {e : Env} {R : Room} {s : State} {m : MethodId} {args : Array Value} {below : List Frame} {meth : Method} {c : Code} {cc bytes : ByteArray} {H : Heap} {locs : List Loc} {cells slots : Nat} {Q : State → Prop} {pc : Nat} {ls : Array Slot} {v : Int32} {D : va_G} {cI cZ cJ : ClassId} {ws W0 W1 Wc W2 : va_W} {A : Nat → Prop} {own C host : String} {index maxL nL fr lo n : Nat} {y : MethodName} {ret : Option FieldType} {wy Ts : List Cond} {As rest st0 : List Value} {b : Addr}
/-- a call that reads: the heap is the same behind it -/
theorem rs_call {a : Array Value} (hr : va_Run p l e R s m args below meth c H locs cells slots 0 0 (F0 m pc ls st0) rest (vp_Si (fun r => r = v) a) (fun _ => False))
    (kk : W p l e R s m args below meth c H locs cells slots Q (F0 m (pc + 3) ls (.int v :: rest))) : W p l e R s m args below meth c H locs cells slots Q (F0 m pc ls st0) := by
  intro T hT X
  obtain ⟨v1, st₀, t, T', L, h0, X', hL, e1, -, ⟨r, hv, hp, hh⟩, st⟩ := hr T hT X
  cases hv
  cases hp
  obtain ⟨t2, a1, b1⟩ := kk T' (by rw [e1, hh, h0]) (Stand.forget X' (fun q h => (hL q h).elim))
  exact ⟨t2, st t2 a1, b1⟩
theorem rs_callv {a : Array Value} (hr : va_Run p l e R s m args below meth c H locs cells slots 0 0 (F0 m pc ls st0) rest (QcV a) (fun _ => False))
    (kk : W p l e R s m args below meth c H locs cells slots Q (F0 m (pc + 3) ls rest)) : W p l e R s m args below meth c H locs cells slots Q (F0 m pc ls st0) := by
  intro T hT X
  obtain ⟨v1, st₀, t, T', L, h0, X', hL, e1, -, ⟨hv, hh⟩, st⟩ := hr T hT X
  cases hv
  obtain ⟨t2, a1, b1⟩ := kk T' (by rw [e1, hh, h0]) (Stand.forget X' (fun q h => (hL q h).elim))
  exact ⟨t2, st t2 a1, b1⟩
theorem rb_in (hP : va_P D vwCl W0 H) (hK : va_K D vwCl (tys9 cI cZ cJ) s) (hN : NM s) (As : List Value) : FrameBlind (va_Pc As (RB D cI cZ cJ W0)) ∧ ∀ U : State, U.heap = H → s.WarmedH U.vm → va_Pc As (RB D cI cZ cJ W0) As.toArray U :=
  ⟨RB.blind, fun U hU hW => ⟨rfl, by rw [hU]; exact hP, va_K.moved hW.alike hK, NM.warm hW hN⟩⟩
theorem mb_in (hP : va_P D vwCl W0 H) (hK : va_K D vwCl (tys9 cI cZ cJ) s) (hN : NM s) (hD : va_D A W0) (As : List Value) : FrameBlind (va_Pc As (MB D cI cZ cJ W0 H.size)) ∧ ∀ U : State, U.heap = H → s.WarmedH U.vm → va_Pc As (MB D cI cZ cJ W0 H.size) As.toArray U :=
  ⟨MB.blind, fun U hU hW => ⟨rfl, by rw [hU], by rw [hU]; exact hP, va_K.moved hW.alike hK, NM.warm hW hN, hD.weaken (fun _ _ _ _ => trivial)⟩⟩
theorem xb_in (hP : va_P D vwCl W0 H) (hK : va_K D vwCl (tys9 cI cZ cJ) s) (hN : NM s) (hD : va_D A W0) (hZ : ZQ A s H) (hF : ∀ q, va_A W0 H.size q → A q) (As : List Value) : FrameBlind (va_Pc As (XB D cI cZ cJ W0 H.size)) ∧ ∀ U : State, U.heap = H → s.WarmedH U.vm → va_Pc As (XB D cI cZ cJ W0 H.size) As.toArray U :=
  ⟨XB.blind, fun U hU hW => ⟨rfl, ⟨by rw [hU], by rw [hU]; exact hP, va_K.moved hW.alike hK, NM.warm hW hN, hD.weaken (fun _ _ _ _ => trivial)⟩, by rw [hU]; exact ZQ.moved hW.alike (hZ.narrow hF)⟩⟩
theorem rd_S (S : CallFix p m c cc nL s args Ts own) (hM : Rd l D cI cZ cJ y wy fr lo As W0 v) (cw : CallB R s args own index y bytes maxL ret wy (rmR fr lo) 0 0 n ∧ (Cond.static y).before args s = true)
    (hP : va_P D vwCl W0 H) (hK : va_K D vwCl (tys9 cI cZ cJ) s) (hN : NM s) (hn : As.length = n) (hsize : ls.size = nL) (hst : st0 = As.reverse ++ rest) (hW : (rest.map fun v => v.category).sum ≤ 8) (hdg : decode cc pc = .ok (.invokestatic index, 3)) (hf : cells ≤ R.cells ∧ slots ≤ R.slots)
    (kk : W p l e R s m args below meth c H locs cells slots Q (F0 m (pc + 3) ls (.int v :: rest))) : W p l e R s m args below meth c H locs cells slots Q (F0 m pc ls st0) :=
  rs_call (va_runS (As := As) (rest := rest) S hM cw (rb_in hP hK hN As) rfl hn hsize hst (lv_room hW) hdg hf) kk
theorem rd_SN (S : CallFix p m c cc nL s args Ts own) (hM : Rd l D cI cZ cJ y wy fr lo As W0 v) (cw : va_CN R s args own index y host bytes maxL ret wy (rmR fr lo) 0 0 n ∧ (Cond.static y).before args s = true ∧ True)
    (hP : va_P D vwCl W0 H) (hK : va_K D vwCl (tys9 cI cZ cJ) s) (hN : NM s) (hn : As.length = n) (hsize : ls.size = nL) (hst : st0 = As.reverse ++ rest) (hW : (rest.map fun v => v.category).sum ≤ 8) (hdg : decode cc pc = .ok (.invokestatic index, 3)) (hf : cells ≤ R.cells ∧ slots ≤ R.slots)
    (kk : W p l e R s m args below meth c H locs cells slots Q (F0 m (pc + 3) ls (.int v :: rest))) : W p l e R s m args below meth c H locs cells slots Q (F0 m pc ls st0) :=
  rs_call (va_runSN (As := As) (rest := rest) S hM cw (rb_in hP hK hN As) rfl hn hsize hst (lv_room hW) hdg hf) kk
theorem rd_V (S : CallFix p m c cc nL s args Ts own) (hM : Rd l D cI cZ cJ y wy fr lo (.ref b :: As) W0 v) (cw : CallW R s args own C index y bytes maxL ret wy (rmR fr lo) 0 0 n)
    (hP : va_P D vwCl W0 H) (hK : va_K D vwCl (tys9 cI cZ cJ) s) (hN : NM s) (hrec : ∃ cell : Cell, H[b]? = some cell ∧ cell.vm.isStatics = false ∧ s.vm.findClass C = some cell.cls) (hn : As.length = n) (hsize : ls.size = nL) (hst : st0 = As.reverse ++ .ref b :: rest) (hW : (rest.map fun v => v.category).sum ≤ 8) (hdg : decode cc pc = .ok (.invokevirtual index, 3)) (hf : cells ≤ R.cells ∧ slots ≤ R.slots)
    (kk : W p l e R s m args below meth c H locs cells slots Q (F0 m (pc + 3) ls (.int v :: rest))) : W p l e R s m args below meth c H locs cells slots Q (F0 m pc ls st0) :=
  rs_call (va_runV (As := As) (rest := rest) (b := b) S hM cw ⟨(rb_in hP hK hN (.ref b :: As)).1, hrec, (rb_in hP hK hN (.ref b :: As)).2⟩ rfl hn hsize hst (lv_room hW) hdg hf) kk
theorem rd_VN (S : CallFix p m c cc nL s args Ts own) (hM : Rd l D cI cZ cJ y wy fr lo (.ref b :: As) W0 v) (cw : va_CN R s args own index y host bytes maxL ret wy (rmR fr lo) 0 0 n ∧ (Cond.instanceMethod y).before args s = true ∧ (Cond.selects C y y).before args s = true)
    (hP : va_P D vwCl W0 H) (hK : va_K D vwCl (tys9 cI cZ cJ) s) (hN : NM s) (hrec : ∃ cell : Cell, H[b]? = some cell ∧ cell.vm.isStatics = false ∧ s.vm.findClass C = some cell.cls) (hn : As.length = n) (hsize : ls.size = nL) (hst : st0 = As.reverse ++ .ref b :: rest) (hW : (rest.map fun v => v.category).sum ≤ 8) (hdg : decode cc pc = .ok (.invokevirtual index, 3)) (hf : cells ≤ R.cells ∧ slots ≤ R.slots)
    (kk : W p l e R s m args below meth c H locs cells slots Q (F0 m (pc + 3) ls (.int v :: rest))) : W p l e R s m args below meth c H locs cells slots Q (F0 m pc ls st0) :=
  rs_call (va_runVN (As := As) (rest := rest) (b := b) S hM cw ⟨(rb_in hP hK hN (.ref b :: As)).1, hrec, (rb_in hP hK hN (.ref b :: As)).2⟩ rfl hn hsize hst (lv_room hW) hdg hf) kk
theorem rv_V (S : CallFix p m c cc nL s args Ts own) (hM : Rv l D cI cZ cJ y wy fr lo (.ref b :: As) W0) (cw : CallW R s args own C index y bytes maxL ret wy (rmR fr lo) 0 0 n)
    (hP : va_P D vwCl W0 H) (hK : va_K D vwCl (tys9 cI cZ cJ) s) (hN : NM s) (hrec : ∃ cell : Cell, H[b]? = some cell ∧ cell.vm.isStatics = false ∧ s.vm.findClass C = some cell.cls) (hn : As.length = n) (hsize : ls.size = nL) (hst : st0 = As.reverse ++ .ref b :: rest) (hW : (rest.map fun v => v.category).sum ≤ 8) (hdg : decode cc pc = .ok (.invokevirtual index, 3)) (hf : cells ≤ R.cells ∧ slots ≤ R.slots)
    (kk : W p l e R s m args below meth c H locs cells slots Q (F0 m (pc + 3) ls rest)) : W p l e R s m args below meth c H locs cells slots Q (F0 m pc ls st0) :=
  rs_callv (va_runV (As := As) (rest := rest) (b := b) S hM cw ⟨(rb_in hP hK hN (.ref b :: As)).1, hrec, (rb_in hP hK hN (.ref b :: As)).2⟩ rfl hn hsize hst (lv_room hW) hdg hf) kk
theorem wd_cut (hP : va_P D vwCl ws H) (isC : List Nat) (hC : isC.map (fun i => ws[i]?) = Wc.map some) : va_P D vwCl Wc H := by
  intro k q hq
  have h1 : (isC.map (fun i => ws[i]?))[k]? = some (some q) := by rw [hC, List.getElem?_map, hq]; rfl
  rw [List.getElem?_map] at h1
  cases hi : isC[k]? with
  | none => rw [hi] at h1; cases h1
  | some i => rw [hi] at h1; exact hP i q (Option.some.inj h1)
/-- a world's cells behind a call that changed some of them -/
theorem wd_back {H1 : Heap} (hP : va_P D vwCl ws H) (hD : va_D A ws) (isC isR : List Nat) (hC : isC.map (fun i => ws[i]?) = Wc.map some) (h1 : isC.map (fun i => W2[i]?) = W1.map some) (hR : ∀ i ∈ isR, W2[i]? = ws[i]?) (hfst : W2.map (fun q => q.1) = ws.map (fun q => q.1)) (hall : ∀ i, i < W2.length → i ∈ isC ∨ i ∈ isR) (hdis : ∀ i ∈ isR, i ∉ isC)
    (hk : ∀ q : Nat, q < H.size → ¬ va_A Wc H.size q → H1[q]? = H[q]?) (hP1 : va_P D vwCl W1 H1) : va_P D vwCl W2 H1 ∧ va_D A W2 := by
  have hD2 : va_D A W2 := by
    have key : ∀ (k : Nat) (q : Nat × va_E), W2[k]? = some q → ∃ q0, ws[k]? = some q0 ∧ q0.1 = q.1 := by
      intro k q hq
      have h2 : (W2.map (fun q => q.1))[k]? = some q.1 := by rw [List.getElem?_map, hq]; rfl
      rw [hfst, List.getElem?_map] at h2
      cases h3 : ws[k]? with
      | none => rw [h3] at h2; cases h2
      | some q0 => rw [h3] at h2; exact ⟨q0, rfl, Option.some.inj h2⟩
    refine ⟨fun i j x y hi hj hxy => ?_, fun k q hk => ?_⟩
    · obtain ⟨x0, a1, a2⟩ := key i x hi
      obtain ⟨y0, b1, b2⟩ := key j y hj
      exact hD.1 i j x0 y0 a1 b1 (a2.trans (hxy.trans b2.symm))
    · obtain ⟨q0, a1, a2⟩ := key k q hk
      rw [← a2]
      exact hD.2 k q0 a1
  refine ⟨fun k q hq => ?_, hD2⟩
  have hlt : k < W2.length := (List.getElem?_eq_some_iff.mp hq).1
  rcases hall k hlt with h | h
  · obtain ⟨j, hj⟩ := List.getElem?_of_mem h
    have h3 : (isC.map (fun i => W2[i]?))[j]? = some (some q) := by rw [List.getElem?_map, hj]; exact congrArg some hq
    rw [h1, List.getElem?_map] at h3
    cases h4 : W1[j]? with
    | none => rw [h4] at h3; cases h3
    | some x =>
      rw [h4] at h3
      have h5 : x = q := Option.some.inj (Option.some.inj h3)
      exact hP1 j q (by rw [h4, h5])
  · have hq0 : ws[k]? = some q := by rw [← hR k h]; exact hq
    refine (hP k q hq0).kept (hk q.1 (hP k q hq0).lt ?_)
    intro z
    rcases z with ⟨j, e0, hj⟩ | hj
    · have h3 : (isC.map (fun i => ws[i]?))[j]? = some (some (q.1, e0)) := by rw [hC, List.getElem?_map, hj]; rfl
      rw [List.getElem?_map] at h3
      cases h4 : isC[j]? with
      | none => rw [h4] at h3; cases h3
      | some i =>
        rw [h4] at h3
        have h5 : ws[i]? = some (q.1, e0) := Option.some.inj h3
        have h6 := hD.1 k i q (q.1, e0) hq0 h5 rfl
        subst h6
        exact hdis k h (List.mem_of_getElem? h4)
    · exact absurd (hP k q hq0).lt (Nat.not_lt.mpr hj)
theorem mi_V (S : CallFix p m c cc nL s args Ts own) (hM : Mi l D cI cZ cJ y wy fr lo H.size (.ref b :: As) Wc W1 v) (cw : CallW R s args own C index y bytes maxL ret wy (rmR fr lo) 0 0 n)
    (hP : va_P D vwCl ws H) (hD : va_D A ws) (hK : va_K D vwCl (tys9 cI cZ cJ) s) (hN : NM s) (hS : va_S A s.heap H locs) (hA : ∀ q : Nat, s.heap.size ≤ q → A q) (hrec : ∃ cell : Cell, H[b]? = some cell ∧ cell.vm.isStatics = false ∧ s.vm.findClass C = some cell.cls) (hn : As.length = n) (hsize : ls.size = nL) (hst : st0 = As.reverse ++ .ref b :: rest) (hW : (rest.map fun v => v.category).sum ≤ 8) (hdg : decode cc pc = .ok (.invokevirtual index, 3)) (hf : cells ≤ R.cells ∧ slots ≤ R.slots)
    (isC isR : List Nat) (hnd : va_nd isC = true) (hC : isC.map (fun i => ws[i]?) = Wc.map some) (h1 : isC.map (fun i => W2[i]?) = W1.map some) (hR : ∀ i ∈ isR, W2[i]? = ws[i]?) (hfst : W2.map (fun q => q.1) = ws.map (fun q => q.1)) (hall : ∀ i, i < W2.length → i ∈ isC ∨ i ∈ isR) (hdis : ∀ i ∈ isR, i ∉ isC)
    (kk : ∀ (H : Heap) (locs : List Loc), va_P D vwCl W2 H → va_D A W2 → va_S A s.heap H locs → W p l e R s m args below meth c H locs cells slots Q (F0 m (pc + 3) ls (.int v :: rest))) : W p l e R s m args below meth c H locs cells slots Q (F0 m pc ls st0) := by
  have hPc : va_P D vwCl Wc H := wd_cut hP isC hC
  have hDc : va_D A Wc := hD.sub isC hnd hC
  have hFc := va_free hD hS hA isC hC
  refine va_calli (va_runV (As := As) (rest := rest) (b := b) S hM cw ⟨(mb_in hPc hK hN hDc (.ref b :: As)).1, hrec, (mb_in hPc hK hN hDc (.ref b :: As)).2⟩ rfl hn hsize hst (lv_room hW) hdg hf) hS (fun q _ h => hFc q h) hFc (fun r u t H1 locs1 ht hvm hw hB hz1 hk1 hS1 => ?_)
  subst hw
  rw [ht] at hB
  obtain ⟨hP2, hD2⟩ := wd_back hP hD isC isR hC h1 hR hfst hall hdis hk1 hB
  exact kk H1 locs1 hP2 hD2 hS1
end BaseCalls
end
