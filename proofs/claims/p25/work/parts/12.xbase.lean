/-! throws: the throw itself, and a callee's throw that goes on to the caller -/
section BaseThrow
variable {p : Program} {l : Launch} {e : Env} {R : Room} {s : State} {m : MethodId} {args : Array Value} {below : List Frame} {meth : Method} {c : Code} {cc bytes : ByteArray} {H : Heap} {locs : List Loc} {cells slots : Nat} {pc : Nat} {ls : Array Slot} {v k : Int32} {D : va_G} {cI cZ cJ : ClassId} {ws W0 Wc : va_W} {A : Nat → Prop} {own C host : String} {index maxL nL fr lo n : Nat} {y : MethodName} {ret : Option FieldType} {wy Ts : List Cond} {As rest st0 : List Value} {b : Addr}
abbrev nx2 : List String := ["java/lang/RuntimeException", "java/lang/Exception"]
theorem nx2_fit : ∀ n ∈ nx2, Bundle.fit n = true := by decide +kernel
theorem tx_call {a : Array Value} (hr : vx_Run p l e R s m args below meth c H locs 0 0 1 6 (F0 m pc ls st0) rest (fun _ _ _ => False) (vx_X (fun (_ : Unit) => True) (fun E _ t => E = xnm k ∧ va_P D vwCl Wc t.heap ∧ H.size + 1 ≤ t.heap.size) (va_A Wc H.size)) (va_A Wc H.size))
    (hP : va_P D vwCl ws H) (hD : va_D A ws) (hS : va_S A s.heap H locs) (hA : ∀ q : Nat, s.heap.size ≤ q → A q) (isC isR : List Nat) (hC : isC.map (fun i => ws[i]?) = Wc.map some) (k9 : Nat) (hlen : ws.length = k9) (hall : ∀ i, i < k9 → i ∈ isC ∨ i ∈ isR) (hdis : ∀ i ∈ isR, i ∉ isC)
    (hout : ∀ x ∈ c.exceptionTable.toList, False) (hlocks : meth.locks = false) :
    W p l e R s m args below meth c H locs 0 0 (vx_MQ below (fun _ _ _ _ => False) (vx_X (fun (_ : Unit) => True) (fun E _ t => E = xnm k ∧ va_P D vwCl ws t.heap ∧ s.heap.size + 1 ≤ t.heap.size) A) args s 1 6 A) (F0 m pc ls st0) := by
  have hFc := va_free hD hS hA isC hC
  intro T hT X
  rcases hr T hT X with ⟨v, st₀, t, T', L, h0, X', hL, e1, e2, hq, st⟩ | ⟨q, st₀, t, T', L, E, ce, h0, X', hL, e1, e2, ⟨u, -, ⟨hE, hB, hG⟩, hF⟩, hce, hcv, hcl, st⟩
  · exact hq.elim
  · obtain ⟨k1, k2, k3⟩ := vx_keep h0 e1 hS (fun q _ h => hFc q h) hFc hL hF
    rw [← e1] at hB
    obtain ⟨hP2, -⟩ := wd_back hP hD isC isR hC hC (fun _ _ => rfl) rfl (by rw [hlen]; exact hall) hdis k2 hB
    obtain ⟨t2, a1, b1⟩ := vx_out (p := p) (l := l) (e := e) (R := R) (s := s) (m := m) (args := args) (below := below) (meth := meth) (c := c) (H := T'.heap) (locs := locs ++ L) (cells := 0 + 1) (slots := 0 + 6) (Qc := fun _ _ _ _ => False) (XC := vx_X (fun (_ : Unit) => True) (fun E _ t => E = xnm k ∧ va_P D vwCl ws t.heap ∧ s.heap.size + 1 ≤ t.heap.size) A) (free := A) (pc := pc) (ls := ls) (rest := rest) (E := E) (ce := ce) (q := q) (mc := 1) (ms := 6)
      (fun x h => absurd (hout x h) id) hlocks (by rw [e1]; exact hce) hcv hcl (fun t9 ht9 _ => ⟨(), trivial, ⟨hE, by rw [ht9]; exact hP2, by rw [ht9, e1]; exact Nat.le_trans (Nat.add_le_add_right hS.1 1) hG⟩, by rw [ht9]; exact k3.1, fun q h1 h2 => by rw [ht9]; exact k3.2.1 q h1 h2⟩) k3.2.2 (by omega) (by omega) T' rfl X'
    exact ⟨t2, st.trans a1, b1⟩
end BaseThrow
