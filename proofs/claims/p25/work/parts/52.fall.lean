/-! the statement is false: from the witness's start, with the script 38, 0, 38, 0 .. (68 ints), the law either answers 0, or has made 383 cells at least -/
def rf_cells : Array Value := #[.int 38, .int 0, .int 38, .int 0, .int 38, .int 0, .int 38, .int 0, .int 38, .int 0, .int 38, .int 0, .int 38, .int 0, .int 38, .int 0, .int 38, .int 0, .int 38, .int 0, .int 38, .int 0, .int 38, .int 0, .int 38, .int 0, .int 38, .int 0, .int 38, .int 0, .int 38, .int 0, .int 38, .int 0, .int 38, .int 0, .int 38, .int 0, .int 38, .int 0, .int 38, .int 0, .int 38, .int 0, .int 38, .int 0, .int 38, .int 0, .int 38, .int 0, .int 38, .int 0, .int 38, .int 0, .int 38, .int 0, .int 38, .int 0, .int 38, .int 0, .int 38, .int 0, .int 38, .int 0, .int 38, .int 0, .int 38, .int 0]
def rf_xs : Nat → Int32 := fun k => if k % 2 = 0 then 38 else 0
def rf_s : State := start1.aboutOf rf_cells
theorem rf_cells_at (j : Nat) (hj : j < 68) : rf_cells[j]? = some (.int (rf_xs j)) := by
  have h : ∀ j : Fin 68, rf_cells[j.val]? = some (.int (rf_xs j.val)) := by decide +kernel
  exact h ⟨j, hj⟩
theorem rf_hxs : ∀ t, t < 34 → rf_xs (2 * t) = 38 ∧ rf_xs (2 * t + 1) = 0 := by
  intro t _
  unfold rf_xs
  exact ⟨if_pos (by omega), if_neg (by omega)⟩
theorem rf_vm : rf_s.vm = start1.about.vm := rfl
theorem rf_warm : start1.about.WarmedH rf_s.vm := by
  rw [rf_vm]
  exact State.WarmedH.refl _
theorem rf_other : (tables_1.filter (fun c => !(c.onTables && c.keeps))).all (fun c => c.before start1.args0 rf_s) = true := by decide +kernel
theorem rf_words : ∀ c ∈ (Jvm.Cond.code x code maxLocals ret :: tables_1), c.before start1.args0 rf_s = true := by
  intro c hc
  by_cases h : (c.onTables && c.keeps) = true
  · exact word_at rf_warm (Or.inl h) (start1.words c hc)
  · rcases List.mem_cons.mp hc with h1 | h1
    · subst h1
      exact absurd rfl h
    · exact List.all_eq_true.mp rf_other c (List.mem_filter.mpr ⟨h1, by
        show (!(c.onTables && c.keeps)) = true
        rw [Bool.eq_false_iff.mpr h]
        rfl⟩)
theorem rf_given : (Jvm.Cond.and given_1 narrow_1).before start1.args0 rf_s = true := by decide +kernel
theorem rf_rest1 : rest_1_c.before start1.args0 rf_s = true := by decide +kernel
theorem rf_loose : (headSpec (Jvm.Cond.code x code maxLocals ret :: tables_1) rfR).applies x start1.e0.platform rf_s = true :=
  (Spec.applies_iff rfl).mpr ⟨rfl, rfl, rfl, by decide +kernel, by decide +kernel, by decide +kernel, launch0.hasRoom_least _ rfR (by decide +kernel) (by decide +kernel) (by decide +kernel) (by decide +kernel) (by decide +kernel) (by decide +kernel), atoms_intro rf_words⟩
theorem rf_atStart : AtStart classFile x code maxLocals ret World_1 tables_1 room_1 Calls_1 rest_1 Pre_1 launch0 start1.p0 start1.e0 rf_s ⟨0, 0⟩ start1.args0 Lib.HandBits.below0 :=
  ⟨lists_1, trivial, launch0.admits_env _ _ _, launch0.least_env, fairChoices_fair.cas, fairChoices_fair.clock, rfl, by decide +kernel, by decide +kernel,
    (Spec.applies_iff rfl).mpr ⟨rfl, rfl, rfl, by decide +kernel, by decide +kernel, by decide +kernel, launch0.hasRoom_least _ room_1 (by decide +kernel) (by decide +kernel) (by decide +kernel) (by decide +kernel) (by decide +kernel) (by decide +kernel), atoms_intro rf_words⟩,
    trivial, rf_rest1, rf_given⟩
theorem rf_X : va_X 0 68 rf_xs rf_s rf_s.heap := by
  have hs := flat_of_before _ rf_given
  have hq := flat_of_before _ rf_rest1
  have harr : (Cond.arrayOf (.arg 0) .int).before start1.args0 rf_s = true := hs _ (by decide +kernel)
  have hlen : (Cond.isInt (.length (.arg 0))).before start1.args0 rf_s = true := hq _ (by decide +kernel)
  have hall : (Cond.all (.arg 0) (.isInt (.elem (.arg 0) (.index 0)))).before start1.args0 rf_s = true := hq _ (by decide +kernel)
  obtain ⟨b, xs, hb, scr, harrAt, hlist, hof, hsmall⟩ := State.ints_of_pre rfl harr hlen hall
  have hb1 : start1.args0[0]? = some (.ref b) := hb
  have hb0 : b = 0 := by cases hb1; rfl
  subst hb0
  obtain ⟨hcb, hkn, -, -⟩ := State.arrayAt?_spec harrAt
  have he : some ({ cls := 17, slots := rf_cells, vm := .none } : Cell) = some scr := hcb
  have he := Option.some.inj he
  subst he
  exact ⟨_, hcb, hof, hkn, rfl, rf_cells_at⟩
set_option maxRecDepth 16384 in
theorem rf_fall : RefutedClaimed_1_2 := by
  have hst : launch0.stackTraces = false := fl_no launch0 rfl
  have hbl : (0 : Nat) < rf_s.heap.size := by decide +kernel
  obtain ⟨n, o, h1, h2, h3, hQ, -⟩ := c_law launch0 hst (b0 := 0) (L := 68) (xs := rf_xs) (by decide) (by decide) rf_hxs rf_s.heap.size start1.p0 start1.e0 (launch0.admits_env _ _ _) fairChoices_fair.cas fairChoices_fair.clock rf_s ⟨0, 0⟩ start1.args0 Lib.HandBits.below0 rfl ((Spec.applies_iff_loose rfl).mp rf_loose).1 ⟨rfl, rf_X, hbl, rfl, rf_given⟩ trivial
  refine ⟨launch0, start1.p0, start1.e0, rf_s, ⟨0, 0⟩, start1.args0, Lib.HandBits.below0, rfl, rf_atStart, n, o, h1, h2, h3, ?_⟩
  rintro ⟨hlimb, hframe⟩
  obtain ⟨⟨r, u, ho, hr, hu⟩, -⟩ := hQ
  subst ho
  rcases hr with rfl | ⟨-, hu9⟩
  · have h : limb_1_2.after start1.args0 rf_s (.returned (some (.int 0))) (stepsAlone start1.p0.tables start1.e0 n rf_s) = true := hlimb
    rw [show limb_1_2 = Cond.eq .result (.int 1) from rfl] at h
    have h4 := Cond.after_iff.mp h
    rw [Cond.eq_ints (x := 0) (y := 1) rfl rfl] at h4
    exact absurd h4 (by decide)
  · obtain ⟨-, -, -, -, h5, -⟩ := hframe
    have h6 : (stepsAlone start1.p0.tables start1.e0 n rf_s).heap.size ≤ rf_s.heap.size + 125 := h5
    have h7 : rf_s.heap.size + u ≤ (stepsAlone start1.p0.tables start1.e0 n rf_s).heap.size := hu
    omega
theorem rf_apart {s : State} {o : Outcome} (h : Within s Lib.HandBits.below0) : ¬ Ended s Lib.HandBits.below0 o := by
  obtain ⟨above, h1, h2, h3⟩ := h
  intro he
  cases o with
  | threw a =>
    have he : s.frames = [Frame.throwing a] ++ Lib.HandBits.below0 := he
    rw [h1] at he
    exact h3 a (List.append_cancel_right he)
  | returned v =>
    have he : s.frames = [Frame.native { method := ⟨0, 0⟩, args := #[], awaiting := false, answer := some (.returned v) }] := he
    have hl := congrArg List.length (h1.symm.trans he)
    rw [List.length_append] at hl
    have h4 : Lib.HandBits.below0.length = 1 := rfl
    have h5 : ([Frame.native { method := ⟨0, 0⟩, args := #[], awaiting := false, answer := some (.returned v) }] : List Frame).length = 1 := rfl
    have h6 := List.length_pos_iff.mpr h2
    omega
theorem rf_same {s : State} {o o' : Outcome} (h : Ended s Lib.HandBits.below0 o) (h' : Ended s Lib.HandBits.below0 o') : o = o' := by
  cases o with
  | threw a =>
    have h : s.frames = Frame.throwing a :: Lib.HandBits.below0 := h
    cases o' with
    | threw b =>
      have h' : s.frames = Frame.throwing b :: Lib.HandBits.below0 := h'
      have h9 := (List.cons.inj (h.symm.trans h')).1
      injection h9 with h9
      rw [h9]
    | returned v =>
      have h' : s.frames = [Frame.native { method := ⟨0, 0⟩, args := #[], awaiting := false, answer := some (.returned v) }] := h'
      have h9 := (List.cons.inj (h.symm.trans h')).1
      injection h9
  | returned v =>
    have h : s.frames = [Frame.native { method := ⟨0, 0⟩, args := #[], awaiting := false, answer := some (.returned v) }] := h
    cases o' with
    | threw b =>
      have h' : s.frames = Frame.throwing b :: Lib.HandBits.below0 := h'
      have h9 := (List.cons.inj (h.symm.trans h')).1
      injection h9
    | returned w =>
      have h' : s.frames = [Frame.native { method := ⟨0, 0⟩, args := #[], awaiting := false, answer := some (.returned w) }] := h'
      have h9 := (List.cons.inj (h.symm.trans h')).1
      injection h9 with h9
      injection h9 with _ _ _ _ _ h9
      simpa using h9
/-- so what is owed can't be proved -/
theorem rf_none : ¬ (Claimed_1_1 ∧ Claimed_1_2) := by
  rintro ⟨-, hc⟩
  have hst : launch0.stackTraces = false := fl_no launch0 rfl
  have hbl : (0 : Nat) < rf_s.heap.size := by decide +kernel
  obtain ⟨n, o, h1, h2, h3, hQ, -⟩ := c_law launch0 hst (b0 := 0) (L := 68) (xs := rf_xs) (by decide) (by decide) rf_hxs rf_s.heap.size start1.p0 start1.e0 (launch0.admits_env _ _ _) fairChoices_fair.cas fairChoices_fair.clock rf_s ⟨0, 0⟩ start1.args0 Lib.HandBits.below0 rfl ((Spec.applies_iff_loose rfl).mp rf_loose).1 ⟨rfl, rf_X, hbl, rfl, rf_given⟩ trivial
  obtain ⟨k1, k2, k3, k4, k5, k6, k7, k8, k9, k10, k11, k12, k13⟩ := rf_atStart
  obtain ⟨n', o', g1, g2, g3, hlimb, hframe⟩ := hc launch0 rfl k1 k2 start1.p0 start1.e0 k3 k5 k6 rf_s ⟨0, 0⟩ start1.args0 Lib.HandBits.below0 k7 k8 k9 k10 ⟨k11, k12, k13⟩
  have hn : n = n' := by
    rcases Nat.lt_trichotomy n n' with h9 | h9 | h9
    · exact absurd h3 (rf_apart (g1 n h9))
    · exact h9
    · exact absurd g3 (rf_apart (h1 n' h9))
  subst hn
  have ho9 := rf_same h3 g3
  subst ho9
  obtain ⟨⟨r, u, ho, hr, hu⟩, -⟩ := hQ
  subst ho
  rcases hr with rfl | ⟨-, hu9⟩
  · have h : limb_1_2.after start1.args0 rf_s (.returned (some (.int 0))) (stepsAlone start1.p0.tables start1.e0 n rf_s) = true := hlimb
    rw [show limb_1_2 = Cond.eq .result (.int 1) from rfl] at h
    have h4 := Cond.after_iff.mp h
    rw [Cond.eq_ints (x := 0) (y := 1) rfl rfl] at h4
    exact absurd h4 (by decide)
  · obtain ⟨-, -, -, -, h5, -⟩ := hframe
    have h6 : (stepsAlone start1.p0.tables start1.e0 n rf_s).heap.size ≤ rf_s.heap.size + 125 := h5
    have h7 : rf_s.heap.size + u ≤ (stepsAlone start1.p0.tables start1.e0 n rf_s).heap.size := hu
    omega
