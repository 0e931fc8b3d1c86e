
def A2 (h0 q : Nat) : Nat → Prop := fun x => x = h0 ∨ x = q
def rmD (d : Nat) : Room := { frames := d, cells := 0, slots := 0, locals := 40 * d }
def tw : List Cond := lw_tbl.filter goodWord
theorem tw_of {w : Cond} (h : w ∈ lw_tbl) (g : goodWord w = true) : w ∈ tw := List.mem_filter.mpr ⟨h, g⟩
theorem tw_sub : ∀ w ∈ tw, w ∈ lw_tbl := fun _ h => (List.mem_filter.mp h).1
theorem tw_good : ∀ w ∈ tw, (w.onTables && w.keeps) = true ∨ ∃ ty, w = .arrayClass ty := fun _ h => good_of_word (List.mem_filter.mp h).2
theorem tw_in {big : List Cond} (hb : ∀ w ∈ tw, w ∈ big) {y : MethodName} {cd : ByteArray} {n : Nat} {r : Option FieldType} (hc : Cond.code y cd n r ∈ tw) : GoodIn big (.code y cd n r :: tw) := by
  intro w hw
  rcases List.mem_cons.mp hw with h | h
  · rw [h]; exact ⟨hb _ hc, tw_good _ hc⟩
  · exact ⟨hb _ h, tw_good _ h⟩
theorem vin15 (x : Int32) : vp_in (x &&& 15) 4096 := by
  obtain ⟨j, hj, e⟩ := pk_andE x (m := 15) 4 (by decide)
  rw [e]; exact vp_in_nI (by omega) (by decide)
/-! long compares with the branch behind them -/
section TTL
variable {p : Program} {l : Launch} {e : Env} {R : Room} {s : State} {m : MethodId} {args : Array Value} {below : List Frame} {meth : Method} {c : Code} {H : Heap} {locs : List Loc} {cells slots : Nat} {Q : State → Prop}
variable {cc : ByteArray} {pc : Nat} {ls : Array Slot} {rest : List Value}
theorem tt_cmp0 (x y : Int64) : lg_cmp x y = 0 ↔ x = y := by
  unfold lg_cmp
  by_cases h1 : y < x
  · have h2 : ¬ x = y := fun h => by rw [h] at h1; exact absurd h1 (by simp [Int64.lt_iff_toInt_lt])
    simp [h1, h2]
  · by_cases h2 : x = y
    · simp [h2]
    · simp [h1, h2]
theorem tt_cmpL (x y : Int64) : lg_cmp x y < 0 ↔ x < y := by
  unfold lg_cmp
  by_cases h1 : y < x
  · have h2 : ¬ x < y := by rw [Int64.lt_iff_toInt_lt] at h1 ⊢; omega
    simp [h1, h2]
  · by_cases h2 : x = y
    · simp [h2]
    · have h3 : x < y := by
        rw [Int64.lt_iff_toInt_lt] at h1 ⊢
        have : x.toInt ≠ y.toInt := fun h => h2 (Int64.toInt_inj.mp h)
        omega
      simp [h1, h2, h3]
theorem tt_cmpG (x y : Int64) : 0 < lg_cmp x y ↔ y < x := by
  unfold lg_cmp
  by_cases h1 : y < x
  · simp [h1]
  · by_cases h2 : x = y
    · simp [h2]
    · simp [h1, h2]
theorem tt_cmpGE (x y : Int64) : 0 ≤ lg_cmp x y ↔ y ≤ x := by
  have h := tt_cmpL x y
  rw [Int32.lt_iff_toInt_lt, Int64.lt_iff_toInt_lt, Int32.toInt_zero] at h
  rw [Int32.le_iff_toInt_le, Int64.le_iff_toInt_le, Int32.toInt_zero]; omega
theorem tt_cmpLE (x y : Int64) : lg_cmp x y ≤ 0 ↔ x ≤ y := by
  have h := tt_cmpG x y
  rw [Int32.lt_iff_toInt_lt, Int64.lt_iff_toInt_lt, Int32.toInt_zero] at h
  rw [Int32.le_iff_toInt_le, Int64.le_iff_toInt_le, Int32.toInt_zero]; omega
theorem tt_lcmp_eq (hexec : p.tables.exec = Jvm.exec) (hb : c.code = cc) {x y : Int64} {off : Int} {tgt : Nat} (hdg : decode cc pc = .ok (.lcmp, 1)) (hd2 : decode cc (pc + 1) = .ok (.ifCond .eq off, 3)) (ht : ((pc + 1 : Nat) : Int) + off = (tgt : Int))
    (kt : x = y → W p l e R s m args below meth c H locs cells slots Q (F0 m tgt ls rest)) (kf : ¬ x = y → W p l e R s m args below meth c H locs cells slots Q (F0 m (pc + 1 + 3) ls rest)) : W p l e R s m args below meth c H locs cells slots Q (F0 m pc ls (.long y :: .long x :: rest)) :=
  W.lcmp hexec hb hdg (lv_if_eq hexec hb hd2 ht (fun h => kt ((tt_cmp0 x y).mp h)) (fun h => kf (fun z => h ((tt_cmp0 x y).mpr z))))
theorem tt_lcmp_ne (hexec : p.tables.exec = Jvm.exec) (hb : c.code = cc) {x y : Int64} {off : Int} {tgt : Nat} (hdg : decode cc pc = .ok (.lcmp, 1)) (hd2 : decode cc (pc + 1) = .ok (.ifCond .ne off, 3)) (ht : ((pc + 1 : Nat) : Int) + off = (tgt : Int))
    (kt : ¬ x = y → W p l e R s m args below meth c H locs cells slots Q (F0 m tgt ls rest)) (kf : x = y → W p l e R s m args below meth c H locs cells slots Q (F0 m (pc + 1 + 3) ls rest)) : W p l e R s m args below meth c H locs cells slots Q (F0 m pc ls (.long y :: .long x :: rest)) :=
  W.lcmp hexec hb hdg (lv_if_ne hexec hb hd2 ht (fun h => kt (fun z => h ((tt_cmp0 x y).mpr z))) (fun h => kf ((tt_cmp0 x y).mp h)))
theorem tt_lcmp_lt (hexec : p.tables.exec = Jvm.exec) (hb : c.code = cc) {x y : Int64} {off : Int} {tgt : Nat} (hdg : decode cc pc = .ok (.lcmp, 1)) (hd2 : decode cc (pc + 1) = .ok (.ifCond .lt off, 3)) (ht : ((pc + 1 : Nat) : Int) + off = (tgt : Int))
    (kt : x < y → W p l e R s m args below meth c H locs cells slots Q (F0 m tgt ls rest)) (kf : ¬ x < y → W p l e R s m args below meth c H locs cells slots Q (F0 m (pc + 1 + 3) ls rest)) : W p l e R s m args below meth c H locs cells slots Q (F0 m pc ls (.long y :: .long x :: rest)) :=
  W.lcmp hexec hb hdg (lv_if_lt hexec hb hd2 ht (fun h => kt ((tt_cmpL x y).mp h)) (fun h => kf (fun z => h ((tt_cmpL x y).mpr z))))
theorem tt_lcmp_ge (hexec : p.tables.exec = Jvm.exec) (hb : c.code = cc) {x y : Int64} {off : Int} {tgt : Nat} (hdg : decode cc pc = .ok (.lcmp, 1)) (hd2 : decode cc (pc + 1) = .ok (.ifCond .ge off, 3)) (ht : ((pc + 1 : Nat) : Int) + off = (tgt : Int))
    (kt : y ≤ x → W p l e R s m args below meth c H locs cells slots Q (F0 m tgt ls rest)) (kf : ¬ y ≤ x → W p l e R s m args below meth c H locs cells slots Q (F0 m (pc + 1 + 3) ls rest)) : W p l e R s m args below meth c H locs cells slots Q (F0 m pc ls (.long y :: .long x :: rest)) :=
  W.lcmp hexec hb hdg (lv_if_ge hexec hb hd2 ht (fun h => kt ((tt_cmpGE x y).mp h)) (fun h => kf (fun z => h ((tt_cmpGE x y).mpr z))))
theorem tt_lcmp_gt (hexec : p.tables.exec = Jvm.exec) (hb : c.code = cc) {x y : Int64} {off : Int} {tgt : Nat} (hdg : decode cc pc = .ok (.lcmp, 1)) (hd2 : decode cc (pc + 1) = .ok (.ifCond .gt off, 3)) (ht : ((pc + 1 : Nat) : Int) + off = (tgt : Int))
    (kt : y < x → W p l e R s m args below meth c H locs cells slots Q (F0 m tgt ls rest)) (kf : ¬ y < x → W p l e R s m args below meth c H locs cells slots Q (F0 m (pc + 1 + 3) ls rest)) : W p l e R s m args below meth c H locs cells slots Q (F0 m pc ls (.long y :: .long x :: rest)) :=
  W.lcmp hexec hb hdg (lv_if_gt hexec hb hd2 ht (fun h => kt ((tt_cmpG x y).mp h)) (fun h => kf (fun z => h ((tt_cmpG x y).mpr z))))
theorem tt_lcmp_le (hexec : p.tables.exec = Jvm.exec) (hb : c.code = cc) {x y : Int64} {off : Int} {tgt : Nat} (hdg : decode cc pc = .ok (.lcmp, 1)) (hd2 : decode cc (pc + 1) = .ok (.ifCond .le off, 3)) (ht : ((pc + 1 : Nat) : Int) + off = (tgt : Int))
    (kt : x ≤ y → W p l e R s m args below meth c H locs cells slots Q (F0 m tgt ls rest)) (kf : ¬ x ≤ y → W p l e R s m args below meth c H locs cells slots Q (F0 m (pc + 1 + 3) ls rest)) : W p l e R s m args below meth c H locs cells slots Q (F0 m pc ls (.long y :: .long x :: rest)) :=
  W.lcmp hexec hb hdg (lv_if_le hexec hb hd2 ht (fun h => kt ((tt_cmpLE x y).mp h)) (fun h => kf (fun z => h ((tt_cmpLE x y).mpr z))))
end TTL
/-! static methods that touch no cell -/
def QcV (v : Value) : Array Value → State → Outcome → State → Prop := fun _ st o t => o = .returned (some v) ∧ t.heap = st.heap
def sMet (l : Launch) (y : MethodName) (cd : ByteArray) (nL : Nat) (ret : Option FieldType) (d : Nat) (av : List Value) (v : Value) : Prop :=
  Met l y (.code y cd nL ret :: tw) (rmD d) (fun a _ => a = av.toArray) (QcV v) 0 0 (fun _ => False)
abbrev sri (p : Program) (l : Launch) (env : Env) (R : Room) (s : State) (m : MethodId) (args : Array Value) (below : List Frame) (meth : Method) (c : Code) (cc : ByteArray) (ty : FieldType) (Q : State → Prop) (T : Int32) : Prop :=
  ∀ (pc : Nat) (ls : Array Slot), decode cc pc = .ok (.ireturn, 1) → narrow ty (.int T) = .int T → W p l env R s m args below meth c s.heap [] 0 0 Q (F0 m pc ls [.int T])
abbrev srl (p : Program) (l : Launch) (env : Env) (R : Room) (s : State) (m : MethodId) (args : Array Value) (below : List Frame) (meth : Method) (c : Code) (cc : ByteArray) (ty : FieldType) (Q : State → Prop) (T : Int64) : Prop :=
  ∀ (pc : Nat) (ls : Array Slot), decode cc pc = .ok (.lreturn, 1) → narrow ty (.long T) = .long T → W p l env R s m args below meth c s.heap [] 0 0 Q (F0 m pc ls [.long T])
theorem sMet.ofi {l : Launch} {y : MethodName} {cd : ByteArray} {nL : Nat} {ty : FieldType} {d : Nat} {av : List Value} {T : Int32} (hy : plainFor y = true) (hlen : (lg_sl av).length ≤ nL)
    (body : ∀ (p : Program) (env : Env) (s : State) (m : MethodId) (args : Array Value) (below : List Frame) (meth : Method) (c : Code) (ls : Array Slot) (Q : State → Prop), CallFix p m c cd nL s args tw y.cls → lv_has ls nL (lv_args 0 av) → sri p l env (rmD d) s m args below meth c cd ty Q T → W p l env (rmD d) s m args below meth c s.heap [] 0 0 Q (F0 m 0 ls [])) : sMet l y cd nL (some ty) d av (.int T) := by
  refine va_MetF (cc := cd) (maxL := nL) (ret := some ty) hy rfl ?_
  intro p env s m args below meth c s₁ B hml hv
  have hv : args = av.toArray := hv
  subst hv
  have hx := B.exec
  have hb := B.bytes
  have hr := B.returns
  have hlocks := B.notSynchronized
  rw [lg_entry_eq]
  refine body p env s m _ below meth c _ _ ⟨hx, hb, hml, findClass_of_methodNamed B.named, fun w h => atoms_spec (ws := .code y cd nL (some ty) :: tw) B.pre w (List.mem_cons_of_mem _ h)⟩ (lv_entry av hlen) ?_
  intro pc ls hd hn
  exact W.zret hx hb hr hn (fun t ht _ => ⟨rfl, ht⟩) (fun q h => by cases h) hd hlocks
theorem sMet.ofl {l : Launch} {y : MethodName} {cd : ByteArray} {nL : Nat} {d : Nat} {av : List Value} {T : Int64} (hy : plainFor y = true) (hlen : (lg_sl av).length ≤ nL)
    (body : ∀ (p : Program) (env : Env) (s : State) (m : MethodId) (args : Array Value) (below : List Frame) (meth : Method) (c : Code) (ls : Array Slot) (Q : State → Prop), CallFix p m c cd nL s args tw y.cls → lv_has ls nL (lv_args 0 av) → srl p l env (rmD d) s m args below meth c cd .long Q T → W p l env (rmD d) s m args below meth c s.heap [] 0 0 Q (F0 m 0 ls [])) : sMet l y cd nL (some .long) d av (.long T) := by
  refine va_MetF (cc := cd) (maxL := nL) (ret := some .long) hy rfl ?_
  intro p env s m args below meth c s₁ B hml hv
  have hv : args = av.toArray := hv
  subst hv
  have hx := B.exec
  have hb := B.bytes
  have hr := B.returns
  have hlocks := B.notSynchronized
  rw [lg_entry_eq]
  refine body p env s m _ below meth c _ _ ⟨hx, hb, hml, findClass_of_methodNamed B.named, fun w h => atoms_spec (ws := .code y cd nL (some .long) :: tw) B.pre w (List.mem_cons_of_mem _ h)⟩ (lv_entry av hlen) ?_
  intro pc ls hd hn
  exact W.lret hx hb hr (fun t ht _ => ⟨rfl, ht⟩) (fun q h => by cases h) hd hlocks
/-- the words of a static callee -/
def sW (own : String) (idx : Nat) (y : MethodName) (cd : ByteArray) (nL : Nat) (ret : Option FieldType) (n : Nat) : Prop :=
  Cond.code y cd nL ret ∈ tw ∧ Cond.methodLink own idx y ∈ tw ∧ Cond.static y ∈ tw ∧ Cond.initialized y.cls ∈ tw ∧ (y.cls ≠ "java/lang/invoke/MethodHandle" ∧ y.cls ≠ "java/lang/invoke/VarHandle" ∧ (parseMethodDescriptor y.desc).map (fun d => d.parameters.length) = some n) ∧ nL ≤ 21
section TTC
variable {p : Program} {l : Launch} {e : Env} {R : Room} {s : State} {m : MethodId} {args : Array Value} {below : List Frame} {meth : Method} {c : Code} {H : Heap} {locs : List Loc} {cells slots : Nat} {Q : State → Prop}
variable {cc : ByteArray} {pc : Nat} {ls : Array Slot} {rest : List Value}
theorem tt_callV {v : Value} {g : JFrame} {a : Array Value} (hr : CallRun p l e R s m args below meth c H locs cells slots 0 0 g rest (QcV v a) (fun _ => False)) (kk : W p l e R s m args below meth c H locs cells slots Q { g with pc := g.pc + 3, stack := v :: rest }) : W p l e R s m args below meth c H locs cells slots Q g := by
  intro T hT X
  obtain ⟨v, st₀, t, T', L, h0, X', hL, e1, ⟨hv, hh⟩, st⟩ := hr T hT X
  cases hv
  obtain ⟨t2, a1, b1⟩ := kk T' (by rw [e1, hh, h0]) (Stand.forget X' (fun q h => (hL q h).elim))
  exact ⟨t2, st t2 a1, b1⟩
theorem scall {own : String} {nL idx n nY d dc : Nat} {y : MethodName} {cd : ByteArray} {ret : Option FieldType} {av : List Value} {v : Value} (E : CallFix p m c cc nL s args tw own) (hM : sMet l y cd nY ret dc av v) (hw : sW own idx y cd nY ret n) (hn : av.length = n) (hls : ls.size = nL) (hd : dc + 1 ≤ d) (hr : (rest.map fun v => v.category).sum ≤ 8) (hdg : decode cc pc = .ok (.invokestatic idx, 3))
    (kk : W p l e (rmD d) s m args below meth c H locs 0 0 Q (F0 m (pc + 3) ls (v :: rest))) : W p l e (rmD d) s m args below meth c H locs 0 0 Q (F0 m pc ls (av.reverse ++ rest)) := by
  obtain ⟨hw1, hw2, hw3, hw4, hw5, hw6⟩ := hw
  have ht := E.2.2.2.2
  exact tt_callV (W.runS (As := av) (rest := rest) (bytes := cd) (maxL := nY) (ret := ret) (n := n) E hM ⟨callB_of n ht (tw_in (fun _ h => h) hw1) rfl rfl rfl (ht _ hw4) (ht _ hw2) hw5 ⟨hd, by show 8 + (nY + 11) + 40 * dc ≤ 40 * d; omega⟩, ht _ hw3⟩ ⟨fun _ _ _ _ q => q, fun _ _ _ => rfl⟩ rfl hn hls rfl (lv_room hr) hdg ⟨Nat.le_refl _, Nat.le_refl _⟩) kk
end TTC
