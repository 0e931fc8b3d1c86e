section TLx
variable {p : Program} {l : Launch} {e : Env} {R : Room} {s : State} {m : MethodId} {args : Array Value} {below : List Frame} {meth : Method} {c : Code} {H : Heap} {locs : List Loc} {cells slots : Nat} {Q : State → Prop}
variable {cc : ByteArray} {pc nL : Nat} {ls : Array Slot} {rest : List Value} {D : va_G} {cA : ClassId} {h0 q : Nat} {k : kSx} {op ac ea : Int32} {H0 : Heap} {A : Nat → Prop}
theorem xgoA {st0 : List Value} {a : Array Value} {v : Option Value} {k2 : kSx} {op2 ac2 ea2 : Int32} (hr : va_Run p l e R s m args below meth c H locs cells slots 0 0 (F0 m pc ls st0) rest (xQ D cA h0 q v k2 op2 ac2 ea2 a) (A2 h0 q)) (hS : va_S A H0 H locs) (hA : ∀ x, A2 h0 q x → A x)
    (kk : ∀ (H1 : Heap) (locs1 : List Loc), va_P D clT (xW cA h0 q k2 op2 ac2 ea2) H1 → va_S A H0 H1 locs1 → (∀ x : Nat, x < H.size → ¬ A2 h0 q x → H1[x]? = H[x]?) → W p l e R s m args below meth c H1 locs1 cells slots Q (F0 m (pc + 3) ls (v.toList ++ rest))) : W p l e R s m args below meth c H locs cells slots Q (F0 m pc ls st0) := by
  intro T hT X
  obtain ⟨v', st₀, t, T', L, h0', X', hL, e1, e2, ⟨hv, hp, hz, hk⟩, st⟩ := hr T hT X
  cases hv
  rw [h0'] at hz hk
  obtain ⟨t2, a1, b1⟩ := kk T'.heap (locs ++ L) (by rw [e1]; exact hp) ⟨Nat.le_trans hS.1 (by rw [e1]; exact hz), fun x h1 h2 => by rw [e1, hk x (Nat.lt_of_lt_of_le h1 hS.1) (fun z => h2 (hA x z))]; exact hS.2.1 x h1 h2, fun x hx => by
      rcases List.mem_append.mp hx with h | h
      · exact hS.2.2 x h
      · exact hA _ (hL x h)⟩ (fun x h1 h2 => by rw [e1]; exact hk x h1 h2) T' rfl X'
  exact ⟨t2, st t2 a1, b1⟩
theorem xcallL {own : String} {idx n nY dc : Nat} {y : MethodName} {cd : ByteArray} {ret : Option FieldType} {av : List Value} {v : Option Value} {k2 : kSx} {op2 ac2 ea2 : Int32} (E : CallFix p m c cc nL s args tw own) (hK : va_K D clT [(cA, .long)] s) (hne : h0 ≠ q) (hM : xMet l y cd nY ret dc av k op ac ea v k2 op2 ac2 ea2) (hw : xYw own idx y cd nY ret n) (hn : av.length = n) (hls : ls.size = nL)
    (hP : va_P D clT (xW cA h0 q k op ac ea) H) (hS : va_S A H0 H locs) (hA : ∀ x, A2 h0 q x → A x) (hR : dc + 1 ≤ R.frames ∧ 40 * dc + 40 ≤ R.locals) (hc : cells ≤ R.cells ∧ slots ≤ R.slots) (hr : (rest.map fun v => v.category).sum ≤ 8) (hdg : decode cc pc = .ok (.invokevirtual idx, 3))
    (kk : ∀ (H1 : Heap) (locs1 : List Loc), va_P D clT (xW cA h0 q k2 op2 ac2 ea2) H1 → va_S A H0 H1 locs1 → (∀ x : Nat, x < H.size → ¬ A2 h0 q x → H1[x]? = H[x]?) → W p l e R s m args below meth c H1 locs1 cells slots Q (F0 m (pc + 3) ls (v.toList ++ rest))) : W p l e R s m args below meth c H locs cells slots Q (F0 m pc ls (av.reverse ++ .ref h0 :: rest)) := by
  obtain ⟨hw1, hw2, hw3, hw3', hw4, hw5, hw6⟩ := hw
  have ht := E.2.2.2.2
  exact xgoA (va_runV (As := av) (rest := rest) (bytes := cd) (maxL := nY) (ret := ret) (n := n) (C := R_x) E (hM D cA h0 q hne) ⟨callB_of n ht (tw_in (fun _ h => h) hw1) rfl rfl rfl (ht _ hw4) (ht _ hw2) hw5 ⟨hR.1, by show 8 + (nY + 11) + 40 * dc ≤ R.locals; omega⟩, ht _ hw3, ht _ hw3'⟩ (xpre hK hP av) rfl hn hls rfl (lv_room hr) hdg ⟨hc.1, hc.2⟩) hS hA kk
end TLx
section TLz
variable {p : Program} {l : Launch} {e : Env} {R : Room} {s : State} {m : MethodId} {args : Array Value} {below : List Frame} {meth : Method} {c : Code} {H : Heap} {locs : List Loc} {cells slots : Nat} {Q : State → Prop}
variable {cc : ByteArray} {pc nL : Nat} {ls : Array Slot} {rest : List Value} {D : va_G} {cA : ClassId} {h0 q : Nat} {k : kSz} {H0 : Heap} {A : Nat → Prop}
theorem zgoA {st0 : List Value} {a : Array Value} {v : Option Value} {k2 : kSz} (hr : va_Run p l e R s m args below meth c H locs cells slots 0 0 (F0 m pc ls st0) rest (zQ D cA h0 q v k2 a) (A2 h0 q)) (hS : va_S A H0 H locs) (hA : ∀ x, A2 h0 q x → A x)
    (kk : ∀ (H1 : Heap) (locs1 : List Loc), va_P D clT (zW cA h0 q k2) H1 → va_S A H0 H1 locs1 → (∀ x : Nat, x < H.size → ¬ A2 h0 q x → H1[x]? = H[x]?) → W p l e R s m args below meth c H1 locs1 cells slots Q (F0 m (pc + 3) ls (v.toList ++ rest))) : W p l e R s m args below meth c H locs cells slots Q (F0 m pc ls st0) := by
  intro T hT X
  obtain ⟨v', st₀, t, T', L, h0', X', hL, e1, e2, ⟨hv, hp, hz, hk⟩, st⟩ := hr T hT X
  cases hv
  rw [h0'] at hz hk
  obtain ⟨t2, a1, b1⟩ := kk T'.heap (locs ++ L) (by rw [e1]; exact hp) ⟨Nat.le_trans hS.1 (by rw [e1]; exact hz), fun x h1 h2 => by rw [e1, hk x (Nat.lt_of_lt_of_le h1 hS.1) (fun z => h2 (hA x z))]; exact hS.2.1 x h1 h2, fun x hx => by
      rcases List.mem_append.mp hx with h | h
      · exact hS.2.2 x h
      · exact hA _ (hL x h)⟩ (fun x h1 h2 => by rw [e1]; exact hk x h1 h2) T' rfl X'
  exact ⟨t2, st t2 a1, b1⟩
theorem zcallL {own : String} {idx n nY dc : Nat} {y : MethodName} {cd : ByteArray} {ret : Option FieldType} {av : List Value} {v : Option Value} {k2 : kSz} (E : CallFix p m c cc nL s args tw own) (hK : va_K D clT [(cA, .long)] s) (hne : h0 ≠ q) (hM : zMet l y cd nY ret dc av k v k2) (hw : zYw own idx y cd nY ret n) (hn : av.length = n) (hls : ls.size = nL)
    (hP : va_P D clT (zW cA h0 q k) H) (hS : va_S A H0 H locs) (hA : ∀ x, A2 h0 q x → A x) (hR : dc + 1 ≤ R.frames ∧ 40 * dc + 40 ≤ R.locals) (hc : cells ≤ R.cells ∧ slots ≤ R.slots) (hr : (rest.map fun v => v.category).sum ≤ 8) (hdg : decode cc pc = .ok (.invokevirtual idx, 3))
    (kk : ∀ (H1 : Heap) (locs1 : List Loc), va_P D clT (zW cA h0 q k2) H1 → va_S A H0 H1 locs1 → (∀ x : Nat, x < H.size → ¬ A2 h0 q x → H1[x]? = H[x]?) → W p l e R s m args below meth c H1 locs1 cells slots Q (F0 m (pc + 3) ls (v.toList ++ rest))) : W p l e R s m args below meth c H locs cells slots Q (F0 m pc ls (av.reverse ++ .ref h0 :: rest)) := by
  obtain ⟨hw1, hw2, hw3, hw3', hw4, hw5, hw6⟩ := hw
  have ht := E.2.2.2.2
  exact zgoA (va_runV (As := av) (rest := rest) (bytes := cd) (maxL := nY) (ret := ret) (n := n) (C := R_z) E (hM D cA h0 q hne) ⟨callB_of n ht (tw_in (fun _ h => h) hw1) rfl rfl rfl (ht _ hw4) (ht _ hw2) hw5 ⟨hR.1, by show 8 + (nY + 11) + 40 * dc ≤ R.locals; omega⟩, ht _ hw3, ht _ hw3'⟩ (zpre hK hP av) rfl hn hls rfl (lv_room hr) hdg ⟨hc.1, hc.2⟩) hS hA kk
end TLz
