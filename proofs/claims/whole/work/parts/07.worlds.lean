abbrev kSx : Type := (Nat → Int64) × Int32 × Int32 × Int32
def ux_w (k : kSx) : Nat → Int64 := k.1
def vx_w (k : kSx) (a : Nat → Int64) : kSx := (a, k.2)
def ux_pc (k : kSx) : Int32 := k.2.1
def vx_pc (k : kSx) (a : Int32) : kSx := (k.1, a, k.2.2)
def ux_ov (k : kSx) : Int32 := k.2.2.1
def vx_ov (k : kSx) (a : Int32) : kSx := (k.1, k.2.1, a, k.2.2.2)
def ux_dn (k : kSx) : Int32 := k.2.2.2
def vx_dn (k : kSx) (a : Int32) : kSx := (k.1, k.2.1, k.2.2.1, a)
theorem ux_w_w (k : kSx) (a : Nat → Int64) : ux_w (vx_w k a) = a := rfl
theorem ux_w_pc (k : kSx) (a : Int32) : ux_w (vx_pc k a) = ux_w k := rfl
theorem ux_w_ov (k : kSx) (a : Int32) : ux_w (vx_ov k a) = ux_w k := rfl
theorem ux_w_dn (k : kSx) (a : Int32) : ux_w (vx_dn k a) = ux_w k := rfl
theorem ux_pc_w (k : kSx) (a : Nat → Int64) : ux_pc (vx_w k a) = ux_pc k := rfl
theorem ux_pc_pc (k : kSx) (a : Int32) : ux_pc (vx_pc k a) = a := rfl
theorem ux_pc_ov (k : kSx) (a : Int32) : ux_pc (vx_ov k a) = ux_pc k := rfl
theorem ux_pc_dn (k : kSx) (a : Int32) : ux_pc (vx_dn k a) = ux_pc k := rfl
theorem ux_ov_w (k : kSx) (a : Nat → Int64) : ux_ov (vx_w k a) = ux_ov k := rfl
theorem ux_ov_pc (k : kSx) (a : Int32) : ux_ov (vx_pc k a) = ux_ov k := rfl
theorem ux_ov_ov (k : kSx) (a : Int32) : ux_ov (vx_ov k a) = a := rfl
theorem ux_ov_dn (k : kSx) (a : Int32) : ux_ov (vx_dn k a) = ux_ov k := rfl
theorem ux_dn_w (k : kSx) (a : Nat → Int64) : ux_dn (vx_w k a) = ux_dn k := rfl
theorem ux_dn_pc (k : kSx) (a : Int32) : ux_dn (vx_pc k a) = ux_dn k := rfl
theorem ux_dn_ov (k : kSx) (a : Int32) : ux_dn (vx_ov k a) = ux_dn k := rfl
theorem ux_dn_dn (k : kSx) (a : Int32) : ux_dn (vx_dn k a) = a := rfl
def ldx (k : kSx) (i : Int32) : Int64 := ux_w k i.toNatClampNeg
def stx (k : kSx) (i : Int32) (v : Int64) : kSx := vx_w k (vp_updL (ux_w k) i.toNatClampNeg v)
def xW (cA : ClassId) (h0 q : Nat) (k : kSx) (op ac ea : Int32) : va_W := [(h0, .inr (0, [.ref q, .int (ux_pc k), .int (ux_ov k), .int (ux_dn k), .int op, .int ac, .int ea])), (q, .inl (cA, 4096, .inr (.inl (ux_w k))))]
def xC (D : va_G) (cA : ClassId) (h0 q : Nat) (H0 : Heap) (k : kSx) (op ac ea : Int32) (H : Heap) (locs : List Loc) : Prop := va_P D clT (xW cA h0 q k op ac ea) H ∧ va_S (A2 h0 q) H0 H locs
def xE (p : Program) (s : State) (m : MethodId) (args : Array Value) (c : Code) (cc : ByteArray) (nL : Nat) (D : va_G) (cA : ClassId) (h0 q : Nat) : Prop := CallFix p m c cc nL s args tw R_x ∧ va_K D clT [(cA, .long)] s ∧ h0 ≠ q
theorem xD {cA : ClassId} {h0 q : Nat} (hne : h0 ≠ q) (k : kSx) (op ac ea : Int32) : va_D (A2 h0 q) (xW cA h0 q k op ac ea) := by
  refine ⟨fun i j a b ha hb hab => ?_, fun i a ha => ?_⟩
  · match i, j, ha, hb with
    | 0, 0, _, _ => rfl
    | 1, 1, _, _ => rfl
    | 0, 1, ha, hb => cases ha; cases hb; exact absurd hab hne
    | 1, 0, ha, hb => cases ha; cases hb; exact absurd hab.symm hne
    | i + 2, _, ha, _ => cases ha
    | 0, j + 2, _, hb => cases hb
    | 1, j + 2, _, hb => cases hb
  · match i, ha with
    | 0, ha => cases ha; exact Or.inl rfl
    | 1, ha => cases ha; exact Or.inr rfl
    | i + 2, ha => cases ha
abbrev xri (p : Program) (l : Launch) (env : Env) (R : Room) (s : State) (m : MethodId) (args : Array Value) (below : List Frame) (meth : Method) (c : Code) (cc : ByteArray) (D : va_G) (cA : ClassId) (h0 q : Nat) (ty : FieldType) (k : kSx) (op ac ea : Int32) (Q : State → Prop) (T : Int32) : Prop :=
  ∀ (pc : Nat) (ls : Array Slot) (H : Heap) (locs : List Loc), decode cc pc = .ok (.ireturn, 1) → xC D cA h0 q s.heap k op ac ea H locs → narrow ty (.int T) = .int T → W p l env R s m args below meth c H locs 0 0 Q (F0 m pc ls [.int T])
abbrev xrl (p : Program) (l : Launch) (env : Env) (R : Room) (s : State) (m : MethodId) (args : Array Value) (below : List Frame) (meth : Method) (c : Code) (cc : ByteArray) (D : va_G) (cA : ClassId) (h0 q : Nat) (ty : FieldType) (k : kSx) (op ac ea : Int32) (Q : State → Prop) (T : Int64) : Prop :=
  ∀ (pc : Nat) (ls : Array Slot) (H : Heap) (locs : List Loc), decode cc pc = .ok (.lreturn, 1) → xC D cA h0 q s.heap k op ac ea H locs → narrow ty (.long T) = .long T → W p l env R s m args below meth c H locs 0 0 Q (F0 m pc ls [.long T])
abbrev xwi (p : Program) (l : Launch) (env : Env) (R : Room) (s : State) (m : MethodId) (args : Array Value) (below : List Frame) (meth : Method) (c : Code) (cc : ByteArray) (D : va_G) (cA : ClassId) (h0 q : Nat) (ty : FieldType) (op ac ea : Int32) (Q : State → Prop) (T : Int32 × kSx) : Prop :=
  ∀ (pc : Nat) (ls : Array Slot) (H : Heap) (locs : List Loc), decode cc pc = .ok (.ireturn, 1) → xC D cA h0 q s.heap T.2 op ac ea H locs → narrow ty (.int T.1) = .int T.1 → W p l env R s m args below meth c H locs 0 0 Q (F0 m pc ls [.int T.1])
abbrev xwl (p : Program) (l : Launch) (env : Env) (R : Room) (s : State) (m : MethodId) (args : Array Value) (below : List Frame) (meth : Method) (c : Code) (cc : ByteArray) (D : va_G) (cA : ClassId) (h0 q : Nat) (ty : FieldType) (op ac ea : Int32) (Q : State → Prop) (T : Int64 × kSx) : Prop :=
  ∀ (pc : Nat) (ls : Array Slot) (H : Heap) (locs : List Loc), decode cc pc = .ok (.lreturn, 1) → xC D cA h0 q s.heap T.2 op ac ea H locs → narrow ty (.long T.1) = .long T.1 → W p l env R s m args below meth c H locs 0 0 Q (F0 m pc ls [.long T.1])
abbrev xwv (p : Program) (l : Launch) (env : Env) (R : Room) (s : State) (m : MethodId) (args : Array Value) (below : List Frame) (meth : Method) (c : Code) (cc : ByteArray) (D : va_G) (cA : ClassId) (h0 q : Nat) (ty : FieldType) (op ac ea : Int32) (Q : State → Prop) (T : kSx) : Prop :=
  ∀ (pc : Nat) (ls : Array Slot) (H : Heap) (locs : List Loc), decode cc pc = .ok (.return_, 1) → xC D cA h0 q s.heap T op ac ea H locs → True → W p l env R s m args below meth c H locs 0 0 Q (F0 m pc ls [])
abbrev zS : Type := kSx × Int32 × Int32 × Int32
abbrev xfi (p : Program) (l : Launch) (env : Env) (R : Room) (s : State) (m : MethodId) (args : Array Value) (below : List Frame) (meth : Method) (c : Code) (cc : ByteArray) (D : va_G) (cA : ClassId) (h0 q : Nat) (ty : FieldType) (Q : State → Prop) (T : Int32 × zS) : Prop :=
  ∀ (pc : Nat) (ls : Array Slot) (H : Heap) (locs : List Loc), decode cc pc = .ok (.ireturn, 1) → xC D cA h0 q s.heap T.2.1 T.2.2.1 T.2.2.2.1 T.2.2.2.2 H locs → narrow ty (.int T.1) = .int T.1 → W p l env R s m args below meth c H locs 0 0 Q (F0 m pc ls [.int T.1])
def xQ (D : va_G) (cA : ClassId) (h0 q : Nat) (v : Option Value) (k : kSx) (op ac ea : Int32) : Array Value → State → Outcome → State → Prop := fun _ st oc t => oc = .returned v ∧ va_P D clT (xW cA h0 q k op ac ea) t.heap ∧ va_F (A2 h0 q) st t
def xPc (D : va_G) (cA : ClassId) (h0 q : Nat) (av : List Value) (k : kSx) (op ac ea : Int32) : Array Value → State → Prop := va_Pc (.ref h0 :: av) (fun U => va_P D clT (xW cA h0 q k op ac ea) U.heap ∧ va_K D clT [(cA, .long)] U)
def xMet (l : Launch) (y : MethodName) (cd : ByteArray) (nL : Nat) (ret : Option FieldType) (d : Nat) (av : List Value) (k : kSx) (op ac ea : Int32) (v : Option Value) (k2 : kSx) (op2 ac2 ea2 : Int32) : Prop :=
  ∀ (D : va_G) (cA : ClassId) (h0 q : Nat), h0 ≠ q → Met l y (.code y cd nL ret :: tw) (rmD d) (xPc D cA h0 q av k op ac ea) (xQ D cA h0 q v k2 op2 ac2 ea2) 0 0 (A2 h0 q)
theorem xMet.ofi {l : Launch} {y : MethodName} {cd : ByteArray} {nL : Nat} {ty : FieldType} {d : Nat} {av : List Value} {T : Int32} {k k2 : kSx} {op ac ea : Int32} {op2 ac2 ea2 : Int32} (hy : plainName y.cls = true) (hyc : y.cls = R_x) (hlen : ∀ h0 : Nat, (lg_sl (.ref h0 :: av)).length ≤ nL)
    (body : ∀ (D : va_G) (cA : ClassId) (h0 q : Nat) (p : Program) (env : Env) (s : State) (m : MethodId) (args : Array Value) (below : List Frame) (meth : Method) (c : Code) (ls : Array Slot) (Q : State → Prop), xE p s m args c cd nL D cA h0 q → xC D cA h0 q s.heap k op ac ea s.heap [] → lv_has ls nL (lv_args 0 (.ref h0 :: av)) →
      (∀ (pc : Nat) (ls : Array Slot) (H : Heap) (locs : List Loc), decode cd pc = .ok (.ireturn, 1) → xC D cA h0 q s.heap k2 op2 ac2 ea2 H locs → narrow ty (.int T) = .int T → W p l env (rmD d) s m args below meth c H locs 0 0 Q (F0 m pc ls [.int T])) →
      W p l env (rmD d) s m args below meth c s.heap [] 0 0 Q (F0 m 0 ls [])) : xMet l y cd nL (some ty) d av k op ac ea (some (.int T)) k2 op2 ac2 ea2 := by
  intro D cA h0 q hne
  refine Met.ofW (cc := cd) (maxL := nL) (ret := (some ty)) hy rfl ?_
  intro p env s m args below meth c s₁ B hml hv
  obtain ⟨hv, hP, hK⟩ := hv
  subst hv
  have hx := B.exec
  have hb := B.bytes
  have hr := B.returns
  have hlocks := B.notSynchronized
  have hown := findClass_of_methodNamed B.named
  rw [hyc] at hown
  rw [lg_entry_eq]
  refine body D cA h0 q p env s m _ below meth c _ _ ⟨⟨hx, hb, hml, hown, fun w h => atoms_spec (ws := .code y cd nL (some ty) :: tw) B.pre w (List.mem_cons_of_mem _ h)⟩, hK, hne⟩ ⟨hP, va_S.rf⟩ (lv_entry _ (hlen h0)) ?_
  intro pc ls H locs hd hC hn
  exact W.zret hx hb hr hn (fun t ht _ => ⟨rfl, by rw [ht]; exact hC.1, hC.2.F ht⟩) hC.2.2.2 hd hlocks
theorem xMet.ofl {l : Launch} {y : MethodName} {cd : ByteArray} {nL : Nat} {d : Nat} {av : List Value} {T : Int64} {k k2 : kSx} {op ac ea : Int32} {op2 ac2 ea2 : Int32} (hy : plainName y.cls = true) (hyc : y.cls = R_x) (hlen : ∀ h0 : Nat, (lg_sl (.ref h0 :: av)).length ≤ nL)
    (body : ∀ (D : va_G) (cA : ClassId) (h0 q : Nat) (p : Program) (env : Env) (s : State) (m : MethodId) (args : Array Value) (below : List Frame) (meth : Method) (c : Code) (ls : Array Slot) (Q : State → Prop), xE p s m args c cd nL D cA h0 q → xC D cA h0 q s.heap k op ac ea s.heap [] → lv_has ls nL (lv_args 0 (.ref h0 :: av)) →
      (∀ (pc : Nat) (ls : Array Slot) (H : Heap) (locs : List Loc), decode cd pc = .ok (.lreturn, 1) → xC D cA h0 q s.heap k2 op2 ac2 ea2 H locs → narrow .long (.long T) = .long T → W p l env (rmD d) s m args below meth c H locs 0 0 Q (F0 m pc ls [.long T])) →
      W p l env (rmD d) s m args below meth c s.heap [] 0 0 Q (F0 m 0 ls [])) : xMet l y cd nL (some .long) d av k op ac ea (some (.long T)) k2 op2 ac2 ea2 := by
  intro D cA h0 q hne
  refine Met.ofW (cc := cd) (maxL := nL) (ret := (some .long)) hy rfl ?_
  intro p env s m args below meth c s₁ B hml hv
  obtain ⟨hv, hP, hK⟩ := hv
  subst hv
  have hx := B.exec
  have hb := B.bytes
  have hr := B.returns
  have hlocks := B.notSynchronized
  have hown := findClass_of_methodNamed B.named
  rw [hyc] at hown
  rw [lg_entry_eq]
  refine body D cA h0 q p env s m _ below meth c _ _ ⟨⟨hx, hb, hml, hown, fun w h => atoms_spec (ws := .code y cd nL (some .long) :: tw) B.pre w (List.mem_cons_of_mem _ h)⟩, hK, hne⟩ ⟨hP, va_S.rf⟩ (lv_entry _ (hlen h0)) ?_
  intro pc ls H locs hd hC hn
  exact W.lret hx hb hr (fun t ht _ => ⟨rfl, by rw [ht]; exact hC.1, hC.2.F ht⟩) hC.2.2.2 hd hlocks
theorem xMet.ofv {l : Launch} {y : MethodName} {cd : ByteArray} {nL : Nat} {d : Nat} {av : List Value} {k k2 : kSx} {op ac ea : Int32} {op2 ac2 ea2 : Int32} (hy : plainName y.cls = true) (hyc : y.cls = R_x) (hlen : ∀ h0 : Nat, (lg_sl (.ref h0 :: av)).length ≤ nL)
    (body : ∀ (D : va_G) (cA : ClassId) (h0 q : Nat) (p : Program) (env : Env) (s : State) (m : MethodId) (args : Array Value) (below : List Frame) (meth : Method) (c : Code) (ls : Array Slot) (Q : State → Prop), xE p s m args c cd nL D cA h0 q → xC D cA h0 q s.heap k op ac ea s.heap [] → lv_has ls nL (lv_args 0 (.ref h0 :: av)) →
      (∀ (pc : Nat) (ls : Array Slot) (H : Heap) (locs : List Loc), decode cd pc = .ok (.return_, 1) → xC D cA h0 q s.heap k2 op2 ac2 ea2 H locs → True → W p l env (rmD d) s m args below meth c H locs 0 0 Q (F0 m pc ls [])) →
      W p l env (rmD d) s m args below meth c s.heap [] 0 0 Q (F0 m 0 ls [])) : xMet l y cd nL none d av k op ac ea none k2 op2 ac2 ea2 := by
  intro D cA h0 q hne
  refine Met.ofW (cc := cd) (maxL := nL) (ret := none) hy rfl ?_
  intro p env s m args below meth c s₁ B hml hv
  obtain ⟨hv, hP, hK⟩ := hv
  subst hv
  have hx := B.exec
  have hb := B.bytes
  have hr := B.returns
  have hlocks := B.notSynchronized
  have hown := findClass_of_methodNamed B.named
  rw [hyc] at hown
  rw [lg_entry_eq]
  refine body D cA h0 q p env s m _ below meth c _ _ ⟨⟨hx, hb, hml, hown, fun w h => atoms_spec (ws := .code y cd nL none :: tw) B.pre w (List.mem_cons_of_mem _ h)⟩, hK, hne⟩ ⟨hP, va_S.rf⟩ (lv_entry _ (hlen h0)) ?_
  intro pc ls H locs hd hC hn
  exact W.vret hx hb hr (fun t ht _ => ⟨rfl, by rw [ht]; exact hC.1, hC.2.F ht⟩) hC.2.2.2 hd hlocks
def xYw (own : String) (idx : Nat) (y : MethodName) (cd : ByteArray) (nL : Nat) (ret : Option FieldType) (n : Nat) : Prop :=
  Cond.code y cd nL ret ∈ tw ∧ Cond.methodLink own idx y ∈ tw ∧ Cond.instanceMethod y ∈ tw ∧ Cond.selects R_x y y ∈ tw ∧ Cond.initialized y.cls ∈ tw ∧ (y.cls ≠ "java/lang/invoke/MethodHandle" ∧ y.cls ≠ "java/lang/invoke/VarHandle" ∧ (parseMethodDescriptor y.desc).map (fun d => d.parameters.length) = some n) ∧ nL ≤ 21
section TTx
variable {p : Program} {l : Launch} {e : Env} {R : Room} {s : State} {m : MethodId} {args : Array Value} {below : List Frame} {meth : Method} {c : Code} {H : Heap} {locs : List Loc} {cells slots : Nat} {Q : State → Prop}
variable {cc : ByteArray} {pc nL : Nat} {ls : Array Slot} {rest : List Value} {D : va_G} {cA : ClassId} {h0 q : Nat} {k : kSx} {op ac ea : Int32} {H0 : Heap}
theorem xgo {st0 : List Value} {a : Array Value} {v : Option Value} {k2 : kSx} {op2 ac2 ea2 : Int32} (hr : va_Run p l e R s m args below meth c H locs cells slots 0 0 (F0 m pc ls st0) rest (xQ D cA h0 q v k2 op2 ac2 ea2 a) (A2 h0 q)) (hS : va_S (A2 h0 q) H0 H locs)
    (kk : ∀ (H1 : Heap) (locs1 : List Loc), xC D cA h0 q H0 k2 op2 ac2 ea2 H1 locs1 → (∀ x : Nat, x < H.size → ¬ A2 h0 q x → H1[x]? = H[x]?) → H.size ≤ H1.size → W p l e R s m args below meth c H1 locs1 cells slots Q (F0 m (pc + 3) ls (v.toList ++ rest))) : W p l e R s m args below meth c H locs cells slots Q (F0 m pc ls st0) := by
  intro T hT X
  obtain ⟨v', st₀, t, T', L, h0', X', hL, e1, e2, ⟨hv, hp, hz, hk⟩, st⟩ := hr T hT X
  cases hv
  rw [h0'] at hz hk
  obtain ⟨t2, a1, b1⟩ := kk T'.heap (locs ++ L) ⟨by rw [e1]; exact hp, Nat.le_trans hS.1 (by rw [e1]; exact hz), fun x h1 h2 => by rw [e1, hk x (Nat.lt_of_lt_of_le h1 hS.1) h2]; exact hS.2.1 x h1 h2, fun x hx => by
      rcases List.mem_append.mp hx with h | h
      · exact hS.2.2 x h
      · exact hL x h⟩ (fun x h1 h2 => by rw [e1]; exact hk x h1 h2) (by rw [e1]; exact hz) T' rfl X'
  exact ⟨t2, st t2 a1, b1⟩
theorem xpre (hK : va_K D clT [(cA, .long)] s) (hP : va_P D clT (xW cA h0 q k op ac ea) H) (av : List Value) : PreV s H R_x h0 (xPc D cA h0 q av k op ac ea) av :=
  ⟨fun a U g mk z => ⟨z.1, z.2.1, va_K.moved (u := U) (U := U.calling g mk a) (Vm.Alike.refl U.vm) z.2.2⟩, va_recv hK hP (ci := 0) rfl (q0 := 0) rfl, fun U hU hW => ⟨rfl, by rw [hU]; exact hP, va_K.moved hW.alike hK⟩⟩
/-- a call of an instance method, from any class, in any room -/
theorem xcallG {own : String} {idx n nY dc : Nat} {y : MethodName} {cd : ByteArray} {ret : Option FieldType} {av : List Value} {v : Option Value} {k2 : kSx} {op2 ac2 ea2 : Int32} (E : CallFix p m c cc nL s args tw own) (hK : va_K D clT [(cA, .long)] s) (hne : h0 ≠ q) (hM : xMet l y cd nY ret dc av k op ac ea v k2 op2 ac2 ea2) (hw : xYw own idx y cd nY ret n) (hn : av.length = n) (hls : ls.size = nL)
    (hP : va_P D clT (xW cA h0 q k op ac ea) H) (hS : va_S (A2 h0 q) H0 H locs) (hR : dc + 1 ≤ R.frames ∧ 40 * dc + 40 ≤ R.locals) (hc : cells ≤ R.cells ∧ slots ≤ R.slots) (hr : (rest.map fun v => v.category).sum ≤ 8) (hdg : decode cc pc = .ok (.invokevirtual idx, 3))
    (kk : ∀ (H1 : Heap) (locs1 : List Loc), xC D cA h0 q H0 k2 op2 ac2 ea2 H1 locs1 → (∀ x : Nat, x < H.size → ¬ A2 h0 q x → H1[x]? = H[x]?) → H.size ≤ H1.size → W p l e R s m args below meth c H1 locs1 cells slots Q (F0 m (pc + 3) ls (v.toList ++ rest))) : W p l e R s m args below meth c H locs cells slots Q (F0 m pc ls (av.reverse ++ .ref h0 :: rest)) := by
  obtain ⟨hw1, hw2, hw3, hw3', hw4, hw5, hw6⟩ := hw
  have ht := E.2.2.2.2
  exact xgo (va_runV (As := av) (rest := rest) (bytes := cd) (maxL := nY) (ret := ret) (n := n) (C := R_x) E (hM D cA h0 q hne) ⟨callB_of n ht (tw_in (fun _ h => h) hw1) rfl rfl rfl (ht _ hw4) (ht _ hw2) hw5 ⟨hR.1, by show 8 + (nY + 11) + 40 * dc ≤ R.locals; omega⟩, ht _ hw3, ht _ hw3'⟩ (xpre hK hP av) rfl hn hls rfl (lv_room hr) hdg ⟨hc.1, hc.2⟩) hS kk
theorem xcall {idx n nY d dc : Nat} {y : MethodName} {cd : ByteArray} {ret : Option FieldType} {av : List Value} {v : Option Value} {k2 : kSx} {op2 ac2 ea2 : Int32} (E : xE p s m args c cc nL D cA h0 q) (hM : xMet l y cd nY ret dc av k op ac ea v k2 op2 ac2 ea2) (hw : xYw R_x idx y cd nY ret n) (hn : av.length = n) (hls : ls.size = nL)
    (hC : xC D cA h0 q s.heap k op ac ea H locs) (hd : dc + 1 ≤ d) (hr : (rest.map fun v => v.category).sum ≤ 8) (hdg : decode cc pc = .ok (.invokevirtual idx, 3))
    (kk : ∀ (H1 : Heap) (locs1 : List Loc), xC D cA h0 q s.heap k2 op2 ac2 ea2 H1 locs1 → W p l e (rmD d) s m args below meth c H1 locs1 0 0 Q (F0 m (pc + 3) ls (v.toList ++ rest))) : W p l e (rmD d) s m args below meth c H locs 0 0 Q (F0 m pc ls (av.reverse ++ .ref h0 :: rest)) :=
  xcallG E.1 E.2.1 E.2.2 hM hw hn hls hC.1 hC.2 ⟨hd, by show 40 * dc + 40 ≤ 40 * d; omega⟩ ⟨Nat.le_refl _, Nat.le_refl _⟩ hr hdg (fun H1 locs1 h _ _ => kk H1 locs1 h)
theorem xld (E : xE p s m args c cc nL D cA h0 q) (hC : xC D cA h0 q s.heap k op ac ea H locs) {i : Int32} (hin : vp_in i 4096) (hdg : decode cc pc = .ok (.laload, 1))
    (kk : W p l e R s m args below meth c H locs cells slots Q (F0 m (pc + 1) ls (.long (ldx k i) :: rest))) : W p l e R s m args below meth c H locs cells slots Q (F0 m pc ls (.int i :: .ref q :: rest)) :=
  va_lald (f := ux_w k) E.1.1 E.1.2.1 E.2.1 hC.1 1 0 rfl rfl hin hdg kk
theorem xst (E : xE p s m args c cc nL D cA h0 q) (hC : xC D cA h0 q s.heap k op ac ea H locs) {i : Int32} {x : Int64} (hin : vp_in i 4096) (hdg : decode cc pc = .ok (.lastore, 1))
    (kk : ∀ (H1 : Heap) (locs1 : List Loc), xC D cA h0 q s.heap (stx k i x) op ac ea H1 locs1 → W p l e R s m args below meth c H1 locs1 cells slots Q (F0 m (pc + 1) ls rest)) : W p l e R s m args below meth c H locs cells slots Q (F0 m pc ls (.long x :: .int i :: .ref q :: rest)) :=
  va_last (f := ux_w k) E.1.1 E.1.2.1 E.2.1 hC.1 (xD E.2.2 k op ac ea) hC.2 1 0 rfl rfl hin hdg (fun H1 locs1 hP _ hS => kk H1 locs1 ⟨hP, hS⟩)
theorem xg_word (E : xE p s m args c cc nL D cA h0 q) (hC : xC D cA h0 q s.heap k op ac ea H locs) (hdg : decode cc pc = .ok (.getfield 9, 3)) (kk : W p l e R s m args below meth c H locs cells slots Q (F0 m (pc + 3) ls (.ref q :: rest))) : W p l e R s m args below meth c H locs cells slots Q (F0 m pc ls (.ref h0 :: rest)) :=
  va_get (D := D) (ci := 0) (v := .ref q) (C := R_x) (T := F_x) (N := 7) E.1.1 E.1.2.1 E.1.2.2.2.2 in_x E.1.2.2.2.1 E.2.1 hC.1 0 rfl rfl 0 (by decide) (E.1.2.2.2.2 _ fl_x_word) (fun _ h => h) rfl hdg kk
theorem xg_pc (E : xE p s m args c cc nL D cA h0 q) (hC : xC D cA h0 q s.heap k op ac ea H locs) (hdg : decode cc pc = .ok (.getfield 23, 3)) (kk : W p l e R s m args below meth c H locs cells slots Q (F0 m (pc + 3) ls (.int (ux_pc k) :: rest))) : W p l e R s m args below meth c H locs cells slots Q (F0 m pc ls (.ref h0 :: rest)) :=
  va_get (D := D) (ci := 0) (v := .int (ux_pc k)) (C := R_x) (T := F_x) (N := 7) E.1.1 E.1.2.1 E.1.2.2.2.2 in_x E.1.2.2.2.1 E.2.1 hC.1 0 rfl rfl 1 (by decide) (E.1.2.2.2.2 _ fl_x_pc) (fun _ h => h) rfl hdg kk
theorem xp_pc {a : Int32} (E : xE p s m args c cc nL D cA h0 q) (hC : xC D cA h0 q s.heap k op ac ea H locs) (hdg : decode cc pc = .ok (.putfield 23, 3)) (kk : ∀ (H1 : Heap) (locs1 : List Loc), xC D cA h0 q s.heap (vx_pc k a) op ac ea H1 locs1 → W p l e R s m args below meth c H1 locs1 cells slots Q (F0 m (pc + 3) ls rest)) : W p l e R s m args below meth c H locs cells slots Q (F0 m pc ls (.int a :: .ref h0 :: rest)) :=
  va_put (D := D) (ci := 0) (v := .int a) (ty := .int) (C := R_x) (T := F_x) (N := 7) E.1.1 E.1.2.1 E.1.2.2.2.2 in_x ty_x tyok_x nm_x E.1.2.2.2.1 E.2.1 hC.1 (xD E.2.2 k op ac ea) hC.2 0 rfl rfl 1 (by decide) (E.1.2.2.2.2 _ fl_x_pc) (fun _ h => h) rfl (by decide +kernel) rfl rfl (Nat.le_of_ble_eq_true rfl) hdg (fun H1 locs1 hP _ hS => kk H1 locs1 ⟨hP, hS⟩)
theorem xg_overflow (E : xE p s m args c cc nL D cA h0 q) (hC : xC D cA h0 q s.heap k op ac ea H locs) (hdg : decode cc pc = .ok (.getfield 27, 3)) (kk : W p l e R s m args below meth c H locs cells slots Q (F0 m (pc + 3) ls (.int (ux_ov k) :: rest))) : W p l e R s m args below meth c H locs cells slots Q (F0 m pc ls (.ref h0 :: rest)) :=
  va_get (D := D) (ci := 0) (v := .int (ux_ov k)) (C := R_x) (T := F_x) (N := 7) E.1.1 E.1.2.1 E.1.2.2.2.2 in_x E.1.2.2.2.1 E.2.1 hC.1 0 rfl rfl 2 (by decide) (E.1.2.2.2.2 _ fl_x_overflow) (fun _ h => h) rfl hdg kk
theorem xp_overflow {a : Int32} (E : xE p s m args c cc nL D cA h0 q) (hC : xC D cA h0 q s.heap k op ac ea H locs) (hn : narrow .boolean (.int a) = .int a) (hf : fits .boolean (.int a) = true) (hdg : decode cc pc = .ok (.putfield 27, 3)) (kk : ∀ (H1 : Heap) (locs1 : List Loc), xC D cA h0 q s.heap (vx_ov k a) op ac ea H1 locs1 → W p l e R s m args below meth c H1 locs1 cells slots Q (F0 m (pc + 3) ls rest)) : W p l e R s m args below meth c H locs cells slots Q (F0 m pc ls (.int a :: .ref h0 :: rest)) :=
  va_put (D := D) (ci := 0) (v := .int a) (ty := .boolean) (C := R_x) (T := F_x) (N := 7) E.1.1 E.1.2.1 E.1.2.2.2.2 in_x ty_x tyok_x nm_x E.1.2.2.2.1 E.2.1 hC.1 (xD E.2.2 k op ac ea) hC.2 0 rfl rfl 2 (by decide) (E.1.2.2.2.2 _ fl_x_overflow) (fun _ h => h) rfl (by decide +kernel) hn hf (Nat.le_of_ble_eq_true rfl) hdg (fun H1 locs1 hP _ hS => kk H1 locs1 ⟨hP, hS⟩)
theorem xg_doneByLatestGo (E : xE p s m args c cc nL D cA h0 q) (hC : xC D cA h0 q s.heap k op ac ea H locs) (hdg : decode cc pc = .ok (.getfield 31, 3)) (kk : W p l e R s m args below meth c H locs cells slots Q (F0 m (pc + 3) ls (.int (ux_dn k) :: rest))) : W p l e R s m args below meth c H locs cells slots Q (F0 m pc ls (.ref h0 :: rest)) :=
  va_get (D := D) (ci := 0) (v := .int (ux_dn k)) (C := R_x) (T := F_x) (N := 7) E.1.1 E.1.2.1 E.1.2.2.2.2 in_x E.1.2.2.2.1 E.2.1 hC.1 0 rfl rfl 3 (by decide) (E.1.2.2.2.2 _ fl_x_doneByLatestGo) (fun _ h => h) rfl hdg kk
theorem xp_doneByLatestGo {a : Int32} (E : xE p s m args c cc nL D cA h0 q) (hC : xC D cA h0 q s.heap k op ac ea H locs) (hdg : decode cc pc = .ok (.putfield 31, 3)) (kk : ∀ (H1 : Heap) (locs1 : List Loc), xC D cA h0 q s.heap (vx_dn k a) op ac ea H1 locs1 → W p l e R s m args below meth c H1 locs1 cells slots Q (F0 m (pc + 3) ls rest)) : W p l e R s m args below meth c H locs cells slots Q (F0 m pc ls (.int a :: .ref h0 :: rest)) :=
  va_put (D := D) (ci := 0) (v := .int a) (ty := .int) (C := R_x) (T := F_x) (N := 7) E.1.1 E.1.2.1 E.1.2.2.2.2 in_x ty_x tyok_x nm_x E.1.2.2.2.1 E.2.1 hC.1 (xD E.2.2 k op ac ea) hC.2 0 rfl rfl 3 (by decide) (E.1.2.2.2.2 _ fl_x_doneByLatestGo) (fun _ h => h) rfl (by decide +kernel) rfl rfl (Nat.le_of_ble_eq_true rfl) hdg (fun H1 locs1 hP _ hS => kk H1 locs1 ⟨hP, hS⟩)
theorem xg_op (E : xE p s m args c cc nL D cA h0 q) (hC : xC D cA h0 q s.heap k op ac ea H locs) (hdg : decode cc pc = .ok (.getfield 44, 3)) (kk : W p l e R s m args below meth c H locs cells slots Q (F0 m (pc + 3) ls (.int (op) :: rest))) : W p l e R s m args below meth c H locs cells slots Q (F0 m pc ls (.ref h0 :: rest)) :=
  va_get (D := D) (ci := 0) (v := .int (op)) (C := R_x) (T := F_x) (N := 7) E.1.1 E.1.2.1 E.1.2.2.2.2 in_x E.1.2.2.2.1 E.2.1 hC.1 0 rfl rfl 4 (by decide) (E.1.2.2.2.2 _ fl_x_op) (fun _ h => h) rfl hdg kk
theorem xp_op {a : Int32} (E : xE p s m args c cc nL D cA h0 q) (hC : xC D cA h0 q s.heap k op ac ea H locs) (hdg : decode cc pc = .ok (.putfield 44, 3)) (kk : ∀ (H1 : Heap) (locs1 : List Loc), xC D cA h0 q s.heap k a ac ea H1 locs1 → W p l e R s m args below meth c H1 locs1 cells slots Q (F0 m (pc + 3) ls rest)) : W p l e R s m args below meth c H locs cells slots Q (F0 m pc ls (.int a :: .ref h0 :: rest)) :=
  va_put (D := D) (ci := 0) (v := .int a) (ty := .int) (C := R_x) (T := F_x) (N := 7) E.1.1 E.1.2.1 E.1.2.2.2.2 in_x ty_x tyok_x nm_x E.1.2.2.2.1 E.2.1 hC.1 (xD E.2.2 k op ac ea) hC.2 0 rfl rfl 4 (by decide) (E.1.2.2.2.2 _ fl_x_op) (fun _ h => h) rfl (by decide +kernel) rfl rfl (Nat.le_of_ble_eq_true rfl) hdg (fun H1 locs1 hP _ hS => kk H1 locs1 ⟨hP, hS⟩)
theorem xg_ac (E : xE p s m args c cc nL D cA h0 q) (hC : xC D cA h0 q s.heap k op ac ea H locs) (hdg : decode cc pc = .ok (.getfield 47, 3)) (kk : W p l e R s m args below meth c H locs cells slots Q (F0 m (pc + 3) ls (.int (ac) :: rest))) : W p l e R s m args below meth c H locs cells slots Q (F0 m pc ls (.ref h0 :: rest)) :=
  va_get (D := D) (ci := 0) (v := .int (ac)) (C := R_x) (T := F_x) (N := 7) E.1.1 E.1.2.1 E.1.2.2.2.2 in_x E.1.2.2.2.1 E.2.1 hC.1 0 rfl rfl 5 (by decide) (E.1.2.2.2.2 _ fl_x_ac) (fun _ h => h) rfl hdg kk
theorem xp_ac {a : Int32} (E : xE p s m args c cc nL D cA h0 q) (hC : xC D cA h0 q s.heap k op ac ea H locs) (hdg : decode cc pc = .ok (.putfield 47, 3)) (kk : ∀ (H1 : Heap) (locs1 : List Loc), xC D cA h0 q s.heap k op a ea H1 locs1 → W p l e R s m args below meth c H1 locs1 cells slots Q (F0 m (pc + 3) ls rest)) : W p l e R s m args below meth c H locs cells slots Q (F0 m pc ls (.int a :: .ref h0 :: rest)) :=
  va_put (D := D) (ci := 0) (v := .int a) (ty := .int) (C := R_x) (T := F_x) (N := 7) E.1.1 E.1.2.1 E.1.2.2.2.2 in_x ty_x tyok_x nm_x E.1.2.2.2.1 E.2.1 hC.1 (xD E.2.2 k op ac ea) hC.2 0 rfl rfl 5 (by decide) (E.1.2.2.2.2 _ fl_x_ac) (fun _ h => h) rfl (by decide +kernel) rfl rfl (Nat.le_of_ble_eq_true rfl) hdg (fun H1 locs1 hP _ hS => kk H1 locs1 ⟨hP, hS⟩)
theorem xg_e (E : xE p s m args c cc nL D cA h0 q) (hC : xC D cA h0 q s.heap k op ac ea H locs) (hdg : decode cc pc = .ok (.getfield 54, 3)) (kk : W p l e R s m args below meth c H locs cells slots Q (F0 m (pc + 3) ls (.int (ea) :: rest))) : W p l e R s m args below meth c H locs cells slots Q (F0 m pc ls (.ref h0 :: rest)) :=
  va_get (D := D) (ci := 0) (v := .int (ea)) (C := R_x) (T := F_x) (N := 7) E.1.1 E.1.2.1 E.1.2.2.2.2 in_x E.1.2.2.2.1 E.2.1 hC.1 0 rfl rfl 6 (by decide) (E.1.2.2.2.2 _ fl_x_e) (fun _ h => h) rfl hdg kk
theorem xp_e {a : Int32} (E : xE p s m args c cc nL D cA h0 q) (hC : xC D cA h0 q s.heap k op ac ea H locs) (hdg : decode cc pc = .ok (.putfield 54, 3)) (kk : ∀ (H1 : Heap) (locs1 : List Loc), xC D cA h0 q s.heap k op ac a H1 locs1 → W p l e R s m args below meth c H1 locs1 cells slots Q (F0 m (pc + 3) ls rest)) : W p l e R s m args below meth c H locs cells slots Q (F0 m pc ls (.int a :: .ref h0 :: rest)) :=
  va_put (D := D) (ci := 0) (v := .int a) (ty := .int) (C := R_x) (T := F_x) (N := 7) E.1.1 E.1.2.1 E.1.2.2.2.2 in_x ty_x tyok_x nm_x E.1.2.2.2.1 E.2.1 hC.1 (xD E.2.2 k op ac ea) hC.2 0 rfl rfl 6 (by decide) (E.1.2.2.2.2 _ fl_x_e) (fun _ h => h) rfl (by decide +kernel) rfl rfl (Nat.le_of_ble_eq_true rfl) hdg (fun H1 locs1 hP _ hS => kk H1 locs1 ⟨hP, hS⟩)
end TTx
abbrev kSz : Type := (Nat → Int64) × Int32 × Int32 × Int32 × Int32
def uz_w (k : kSz) : Nat → Int64 := k.1
def vz_w (k : kSz) (a : Nat → Int64) : kSz := (a, k.2)
def uz_ct (k : kSz) : Int32 := k.2.1
def vz_ct (k : kSz) (a : Int32) : kSz := (k.1, a, k.2.2)
def uz_bh (k : kSz) : Int32 := k.2.2.1
def vz_bh (k : kSz) (a : Int32) : kSz := (k.1, k.2.1, a, k.2.2.2)
def uz_dn (k : kSz) : Int32 := k.2.2.2.1
def vz_dn (k : kSz) (a : Int32) : kSz := (k.1, k.2.1, k.2.2.1, a, k.2.2.2.2)
def uz_ov (k : kSz) : Int32 := k.2.2.2.2
def vz_ov (k : kSz) (a : Int32) : kSz := (k.1, k.2.1, k.2.2.1, k.2.2.2.1, a)
theorem uz_w_w (k : kSz) (a : Nat → Int64) : uz_w (vz_w k a) = a := rfl
theorem uz_w_ct (k : kSz) (a : Int32) : uz_w (vz_ct k a) = uz_w k := rfl
theorem uz_w_bh (k : kSz) (a : Int32) : uz_w (vz_bh k a) = uz_w k := rfl
theorem uz_w_dn (k : kSz) (a : Int32) : uz_w (vz_dn k a) = uz_w k := rfl
theorem uz_w_ov (k : kSz) (a : Int32) : uz_w (vz_ov k a) = uz_w k := rfl
theorem uz_ct_w (k : kSz) (a : Nat → Int64) : uz_ct (vz_w k a) = uz_ct k := rfl
theorem uz_ct_ct (k : kSz) (a : Int32) : uz_ct (vz_ct k a) = a := rfl
theorem uz_ct_bh (k : kSz) (a : Int32) : uz_ct (vz_bh k a) = uz_ct k := rfl
theorem uz_ct_dn (k : kSz) (a : Int32) : uz_ct (vz_dn k a) = uz_ct k := rfl
theorem uz_ct_ov (k : kSz) (a : Int32) : uz_ct (vz_ov k a) = uz_ct k := rfl
theorem uz_bh_w (k : kSz) (a : Nat → Int64) : uz_bh (vz_w k a) = uz_bh k := rfl
theorem uz_bh_ct (k : kSz) (a : Int32) : uz_bh (vz_ct k a) = uz_bh k := rfl
theorem uz_bh_bh (k : kSz) (a : Int32) : uz_bh (vz_bh k a) = a := rfl
theorem uz_bh_dn (k : kSz) (a : Int32) : uz_bh (vz_dn k a) = uz_bh k := rfl
theorem uz_bh_ov (k : kSz) (a : Int32) : uz_bh (vz_ov k a) = uz_bh k := rfl
theorem uz_dn_w (k : kSz) (a : Nat → Int64) : uz_dn (vz_w k a) = uz_dn k := rfl
theorem uz_dn_ct (k : kSz) (a : Int32) : uz_dn (vz_ct k a) = uz_dn k := rfl
theorem uz_dn_bh (k : kSz) (a : Int32) : uz_dn (vz_bh k a) = uz_dn k := rfl
theorem uz_dn_dn (k : kSz) (a : Int32) : uz_dn (vz_dn k a) = a := rfl
theorem uz_dn_ov (k : kSz) (a : Int32) : uz_dn (vz_ov k a) = uz_dn k := rfl
theorem uz_ov_w (k : kSz) (a : Nat → Int64) : uz_ov (vz_w k a) = uz_ov k := rfl
theorem uz_ov_ct (k : kSz) (a : Int32) : uz_ov (vz_ct k a) = uz_ov k := rfl
theorem uz_ov_bh (k : kSz) (a : Int32) : uz_ov (vz_bh k a) = uz_ov k := rfl
theorem uz_ov_dn (k : kSz) (a : Int32) : uz_ov (vz_dn k a) = uz_ov k := rfl
theorem uz_ov_ov (k : kSz) (a : Int32) : uz_ov (vz_ov k a) = a := rfl
def ldz (k : kSz) (i : Int32) : Int64 := uz_w k i.toNatClampNeg
def stz (k : kSz) (i : Int32) (v : Int64) : kSz := vz_w k (vp_updL (uz_w k) i.toNatClampNeg v)
def zW (cA : ClassId) (h0 q : Nat) (k : kSz) : va_W := [(h0, .inr (1, [.ref q, .int (uz_ct k), .int (uz_bh k), .int (uz_dn k), .int (uz_ov k)])), (q, .inl (cA, 4096, .inr (.inl (uz_w k))))]
def zC (D : va_G) (cA : ClassId) (h0 q : Nat) (H0 : Heap) (k : kSz) (H : Heap) (locs : List Loc) : Prop := va_P D clT (zW cA h0 q k) H ∧ va_S (A2 h0 q) H0 H locs
def zE (p : Program) (s : State) (m : MethodId) (args : Array Value) (c : Code) (cc : ByteArray) (nL : Nat) (D : va_G) (cA : ClassId) (h0 q : Nat) : Prop := CallFix p m c cc nL s args tw R_z ∧ va_K D clT [(cA, .long)] s ∧ h0 ≠ q
theorem zD {cA : ClassId} {h0 q : Nat} (hne : h0 ≠ q) (k : kSz) : va_D (A2 h0 q) (zW cA h0 q k) := by
  refine ⟨fun i j a b ha hb hab => ?_, fun i a ha => ?_⟩
  · match i, j, ha, hb with
    | 0, 0, _, _ => rfl
    | 1, 1, _, _ => rfl
    | 0, 1, ha, hb => cases ha; cases hb; exact absurd hab hne
    | 1, 0, ha, hb => cases ha; cases hb; exact absurd hab.symm hne
    | i + 2, _, ha, _ => cases ha
    | 0, j + 2, _, hb => cases hb
    | 1, j + 2, _, hb => cases hb
  · match i, ha with
    | 0, ha => cases ha; exact Or.inl rfl
    | 1, ha => cases ha; exact Or.inr rfl
    | i + 2, ha => cases ha
abbrev zri (p : Program) (l : Launch) (env : Env) (R : Room) (s : State) (m : MethodId) (args : Array Value) (below : List Frame) (meth : Method) (c : Code) (cc : ByteArray) (D : va_G) (cA : ClassId) (h0 q : Nat) (ty : FieldType) (k : kSz) (Q : State → Prop) (T : Int32) : Prop :=
  ∀ (pc : Nat) (ls : Array Slot) (H : Heap) (locs : List Loc), decode cc pc = .ok (.ireturn, 1) → zC D cA h0 q s.heap k H locs → narrow ty (.int T) = .int T → W p l env R s m args below meth c H locs 0 0 Q (F0 m pc ls [.int T])
abbrev zrl (p : Program) (l : Launch) (env : Env) (R : Room) (s : State) (m : MethodId) (args : Array Value) (below : List Frame) (meth : Method) (c : Code) (cc : ByteArray) (D : va_G) (cA : ClassId) (h0 q : Nat) (ty : FieldType) (k : kSz) (Q : State → Prop) (T : Int64) : Prop :=
  ∀ (pc : Nat) (ls : Array Slot) (H : Heap) (locs : List Loc), decode cc pc = .ok (.lreturn, 1) → zC D cA h0 q s.heap k H locs → narrow ty (.long T) = .long T → W p l env R s m args below meth c H locs 0 0 Q (F0 m pc ls [.long T])
abbrev zwi (p : Program) (l : Launch) (env : Env) (R : Room) (s : State) (m : MethodId) (args : Array Value) (below : List Frame) (meth : Method) (c : Code) (cc : ByteArray) (D : va_G) (cA : ClassId) (h0 q : Nat) (ty : FieldType) (Q : State → Prop) (T : Int32 × kSz) : Prop :=
  ∀ (pc : Nat) (ls : Array Slot) (H : Heap) (locs : List Loc), decode cc pc = .ok (.ireturn, 1) → zC D cA h0 q s.heap T.2 H locs → narrow ty (.int T.1) = .int T.1 → W p l env R s m args below meth c H locs 0 0 Q (F0 m pc ls [.int T.1])
abbrev zwl (p : Program) (l : Launch) (env : Env) (R : Room) (s : State) (m : MethodId) (args : Array Value) (below : List Frame) (meth : Method) (c : Code) (cc : ByteArray) (D : va_G) (cA : ClassId) (h0 q : Nat) (ty : FieldType) (Q : State → Prop) (T : Int64 × kSz) : Prop :=
  ∀ (pc : Nat) (ls : Array Slot) (H : Heap) (locs : List Loc), decode cc pc = .ok (.lreturn, 1) → zC D cA h0 q s.heap T.2 H locs → narrow ty (.long T.1) = .long T.1 → W p l env R s m args below meth c H locs 0 0 Q (F0 m pc ls [.long T.1])
abbrev zwv (p : Program) (l : Launch) (env : Env) (R : Room) (s : State) (m : MethodId) (args : Array Value) (below : List Frame) (meth : Method) (c : Code) (cc : ByteArray) (D : va_G) (cA : ClassId) (h0 q : Nat) (ty : FieldType) (Q : State → Prop) (T : kSz) : Prop :=
  ∀ (pc : Nat) (ls : Array Slot) (H : Heap) (locs : List Loc), decode cc pc = .ok (.return_, 1) → zC D cA h0 q s.heap T H locs → True → W p l env R s m args below meth c H locs 0 0 Q (F0 m pc ls [])
def zQ (D : va_G) (cA : ClassId) (h0 q : Nat) (v : Option Value) (k : kSz) : Array Value → State → Outcome → State → Prop := fun _ st oc t => oc = .returned v ∧ va_P D clT (zW cA h0 q k) t.heap ∧ va_F (A2 h0 q) st t
def zPc (D : va_G) (cA : ClassId) (h0 q : Nat) (av : List Value) (k : kSz) : Array Value → State → Prop := va_Pc (.ref h0 :: av) (fun U => va_P D clT (zW cA h0 q k) U.heap ∧ va_K D clT [(cA, .long)] U)
def zMet (l : Launch) (y : MethodName) (cd : ByteArray) (nL : Nat) (ret : Option FieldType) (d : Nat) (av : List Value) (k : kSz) (v : Option Value) (k2 : kSz) : Prop :=
  ∀ (D : va_G) (cA : ClassId) (h0 q : Nat), h0 ≠ q → Met l y (.code y cd nL ret :: tw) (rmD d) (zPc D cA h0 q av k) (zQ D cA h0 q v k2) 0 0 (A2 h0 q)
theorem zMet.ofi {l : Launch} {y : MethodName} {cd : ByteArray} {nL : Nat} {ty : FieldType} {d : Nat} {av : List Value} {T : Int32} {k k2 : kSz} (hy : plainName y.cls = true) (hyc : y.cls = R_z) (hlen : ∀ h0 : Nat, (lg_sl (.ref h0 :: av)).length ≤ nL)
    (body : ∀ (D : va_G) (cA : ClassId) (h0 q : Nat) (p : Program) (env : Env) (s : State) (m : MethodId) (args : Array Value) (below : List Frame) (meth : Method) (c : Code) (ls : Array Slot) (Q : State → Prop), zE p s m args c cd nL D cA h0 q → zC D cA h0 q s.heap k s.heap [] → lv_has ls nL (lv_args 0 (.ref h0 :: av)) →
      (∀ (pc : Nat) (ls : Array Slot) (H : Heap) (locs : List Loc), decode cd pc = .ok (.ireturn, 1) → zC D cA h0 q s.heap k2 H locs → narrow ty (.int T) = .int T → W p l env (rmD d) s m args below meth c H locs 0 0 Q (F0 m pc ls [.int T])) →
      W p l env (rmD d) s m args below meth c s.heap [] 0 0 Q (F0 m 0 ls [])) : zMet l y cd nL (some ty) d av k (some (.int T)) k2 := by
  intro D cA h0 q hne
  refine Met.ofW (cc := cd) (maxL := nL) (ret := (some ty)) hy rfl ?_
  intro p env s m args below meth c s₁ B hml hv
  obtain ⟨hv, hP, hK⟩ := hv
  subst hv
  have hx := B.exec
  have hb := B.bytes
  have hr := B.returns
  have hlocks := B.notSynchronized
  have hown := findClass_of_methodNamed B.named
  rw [hyc] at hown
  rw [lg_entry_eq]
  refine body D cA h0 q p env s m _ below meth c _ _ ⟨⟨hx, hb, hml, hown, fun w h => atoms_spec (ws := .code y cd nL (some ty) :: tw) B.pre w (List.mem_cons_of_mem _ h)⟩, hK, hne⟩ ⟨hP, va_S.rf⟩ (lv_entry _ (hlen h0)) ?_
  intro pc ls H locs hd hC hn
  exact W.zret hx hb hr hn (fun t ht _ => ⟨rfl, by rw [ht]; exact hC.1, hC.2.F ht⟩) hC.2.2.2 hd hlocks
theorem zMet.ofl {l : Launch} {y : MethodName} {cd : ByteArray} {nL : Nat} {d : Nat} {av : List Value} {T : Int64} {k k2 : kSz} (hy : plainName y.cls = true) (hyc : y.cls = R_z) (hlen : ∀ h0 : Nat, (lg_sl (.ref h0 :: av)).length ≤ nL)
    (body : ∀ (D : va_G) (cA : ClassId) (h0 q : Nat) (p : Program) (env : Env) (s : State) (m : MethodId) (args : Array Value) (below : List Frame) (meth : Method) (c : Code) (ls : Array Slot) (Q : State → Prop), zE p s m args c cd nL D cA h0 q → zC D cA h0 q s.heap k s.heap [] → lv_has ls nL (lv_args 0 (.ref h0 :: av)) →
      (∀ (pc : Nat) (ls : Array Slot) (H : Heap) (locs : List Loc), decode cd pc = .ok (.lreturn, 1) → zC D cA h0 q s.heap k2 H locs → narrow .long (.long T) = .long T → W p l env (rmD d) s m args below meth c H locs 0 0 Q (F0 m pc ls [.long T])) →
      W p l env (rmD d) s m args below meth c s.heap [] 0 0 Q (F0 m 0 ls [])) : zMet l y cd nL (some .long) d av k (some (.long T)) k2 := by
  intro D cA h0 q hne
  refine Met.ofW (cc := cd) (maxL := nL) (ret := (some .long)) hy rfl ?_
  intro p env s m args below meth c s₁ B hml hv
  obtain ⟨hv, hP, hK⟩ := hv
  subst hv
  have hx := B.exec
  have hb := B.bytes
  have hr := B.returns
  have hlocks := B.notSynchronized
  have hown := findClass_of_methodNamed B.named
  rw [hyc] at hown
  rw [lg_entry_eq]
  refine body D cA h0 q p env s m _ below meth c _ _ ⟨⟨hx, hb, hml, hown, fun w h => atoms_spec (ws := .code y cd nL (some .long) :: tw) B.pre w (List.mem_cons_of_mem _ h)⟩, hK, hne⟩ ⟨hP, va_S.rf⟩ (lv_entry _ (hlen h0)) ?_
  intro pc ls H locs hd hC hn
  exact W.lret hx hb hr (fun t ht _ => ⟨rfl, by rw [ht]; exact hC.1, hC.2.F ht⟩) hC.2.2.2 hd hlocks
theorem zMet.ofv {l : Launch} {y : MethodName} {cd : ByteArray} {nL : Nat} {d : Nat} {av : List Value} {k k2 : kSz} (hy : plainName y.cls = true) (hyc : y.cls = R_z) (hlen : ∀ h0 : Nat, (lg_sl (.ref h0 :: av)).length ≤ nL)
    (body : ∀ (D : va_G) (cA : ClassId) (h0 q : Nat) (p : Program) (env : Env) (s : State) (m : MethodId) (args : Array Value) (below : List Frame) (meth : Method) (c : Code) (ls : Array Slot) (Q : State → Prop), zE p s m args c cd nL D cA h0 q → zC D cA h0 q s.heap k s.heap [] → lv_has ls nL (lv_args 0 (.ref h0 :: av)) →
      (∀ (pc : Nat) (ls : Array Slot) (H : Heap) (locs : List Loc), decode cd pc = .ok (.return_, 1) → zC D cA h0 q s.heap k2 H locs → True → W p l env (rmD d) s m args below meth c H locs 0 0 Q (F0 m pc ls [])) →
      W p l env (rmD d) s m args below meth c s.heap [] 0 0 Q (F0 m 0 ls [])) : zMet l y cd nL none d av k none k2 := by
  intro D cA h0 q hne
  refine Met.ofW (cc := cd) (maxL := nL) (ret := none) hy rfl ?_
  intro p env s m args below meth c s₁ B hml hv
  obtain ⟨hv, hP, hK⟩ := hv
  subst hv
  have hx := B.exec
  have hb := B.bytes
  have hr := B.returns
  have hlocks := B.notSynchronized
  have hown := findClass_of_methodNamed B.named
  rw [hyc] at hown
  rw [lg_entry_eq]
  refine body D cA h0 q p env s m _ below meth c _ _ ⟨⟨hx, hb, hml, hown, fun w h => atoms_spec (ws := .code y cd nL none :: tw) B.pre w (List.mem_cons_of_mem _ h)⟩, hK, hne⟩ ⟨hP, va_S.rf⟩ (lv_entry _ (hlen h0)) ?_
  intro pc ls H locs hd hC hn
  exact W.vret hx hb hr (fun t ht _ => ⟨rfl, by rw [ht]; exact hC.1, hC.2.F ht⟩) hC.2.2.2 hd hlocks
def zYw (own : String) (idx : Nat) (y : MethodName) (cd : ByteArray) (nL : Nat) (ret : Option FieldType) (n : Nat) : Prop :=
  Cond.code y cd nL ret ∈ tw ∧ Cond.methodLink own idx y ∈ tw ∧ Cond.instanceMethod y ∈ tw ∧ Cond.selects R_z y y ∈ tw ∧ Cond.initialized y.cls ∈ tw ∧ (y.cls ≠ "java/lang/invoke/MethodHandle" ∧ y.cls ≠ "java/lang/invoke/VarHandle" ∧ (parseMethodDescriptor y.desc).map (fun d => d.parameters.length) = some n) ∧ nL ≤ 21
section TTz
variable {p : Program} {l : Launch} {e : Env} {R : Room} {s : State} {m : MethodId} {args : Array Value} {below : List Frame} {meth : Method} {c : Code} {H : Heap} {locs : List Loc} {cells slots : Nat} {Q : State → Prop}
variable {cc : ByteArray} {pc nL : Nat} {ls : Array Slot} {rest : List Value} {D : va_G} {cA : ClassId} {h0 q : Nat} {k : kSz} {H0 : Heap}
theorem zgo {st0 : List Value} {a : Array Value} {v : Option Value} {k2 : kSz} (hr : va_Run p l e R s m args below meth c H locs cells slots 0 0 (F0 m pc ls st0) rest (zQ D cA h0 q v k2 a) (A2 h0 q)) (hS : va_S (A2 h0 q) H0 H locs)
    (kk : ∀ (H1 : Heap) (locs1 : List Loc), zC D cA h0 q H0 k2 H1 locs1 → (∀ x : Nat, x < H.size → ¬ A2 h0 q x → H1[x]? = H[x]?) → H.size ≤ H1.size → W p l e R s m args below meth c H1 locs1 cells slots Q (F0 m (pc + 3) ls (v.toList ++ rest))) : W p l e R s m args below meth c H locs cells slots Q (F0 m pc ls st0) := by
  intro T hT X
  obtain ⟨v', st₀, t, T', L, h0', X', hL, e1, e2, ⟨hv, hp, hz, hk⟩, st⟩ := hr T hT X
  cases hv
  rw [h0'] at hz hk
  obtain ⟨t2, a1, b1⟩ := kk T'.heap (locs ++ L) ⟨by rw [e1]; exact hp, Nat.le_trans hS.1 (by rw [e1]; exact hz), fun x h1 h2 => by rw [e1, hk x (Nat.lt_of_lt_of_le h1 hS.1) h2]; exact hS.2.1 x h1 h2, fun x hx => by
      rcases List.mem_append.mp hx with h | h
      · exact hS.2.2 x h
      · exact hL x h⟩ (fun x h1 h2 => by rw [e1]; exact hk x h1 h2) (by rw [e1]; exact hz) T' rfl X'
  exact ⟨t2, st t2 a1, b1⟩
theorem zpre (hK : va_K D clT [(cA, .long)] s) (hP : va_P D clT (zW cA h0 q k) H) (av : List Value) : PreV s H R_z h0 (zPc D cA h0 q av k) av :=
  ⟨fun a U g mk z => ⟨z.1, z.2.1, va_K.moved (u := U) (U := U.calling g mk a) (Vm.Alike.refl U.vm) z.2.2⟩, va_recv hK hP (ci := 1) rfl (q0 := 0) rfl, fun U hU hW => ⟨rfl, by rw [hU]; exact hP, va_K.moved hW.alike hK⟩⟩
/-- a call of an instance method, from any class, in any room -/
theorem zcallG {own : String} {idx n nY dc : Nat} {y : MethodName} {cd : ByteArray} {ret : Option FieldType} {av : List Value} {v : Option Value} {k2 : kSz} (E : CallFix p m c cc nL s args tw own) (hK : va_K D clT [(cA, .long)] s) (hne : h0 ≠ q) (hM : zMet l y cd nY ret dc av k v k2) (hw : zYw own idx y cd nY ret n) (hn : av.length = n) (hls : ls.size = nL)
    (hP : va_P D clT (zW cA h0 q k) H) (hS : va_S (A2 h0 q) H0 H locs) (hR : dc + 1 ≤ R.frames ∧ 40 * dc + 40 ≤ R.locals) (hc : cells ≤ R.cells ∧ slots ≤ R.slots) (hr : (rest.map fun v => v.category).sum ≤ 8) (hdg : decode cc pc = .ok (.invokevirtual idx, 3))
    (kk : ∀ (H1 : Heap) (locs1 : List Loc), zC D cA h0 q H0 k2 H1 locs1 → (∀ x : Nat, x < H.size → ¬ A2 h0 q x → H1[x]? = H[x]?) → H.size ≤ H1.size → W p l e R s m args below meth c H1 locs1 cells slots Q (F0 m (pc + 3) ls (v.toList ++ rest))) : W p l e R s m args below meth c H locs cells slots Q (F0 m pc ls (av.reverse ++ .ref h0 :: rest)) := by
  obtain ⟨hw1, hw2, hw3, hw3', hw4, hw5, hw6⟩ := hw
  have ht := E.2.2.2.2
  exact zgo (va_runV (As := av) (rest := rest) (bytes := cd) (maxL := nY) (ret := ret) (n := n) (C := R_z) E (hM D cA h0 q hne) ⟨callB_of n ht (tw_in (fun _ h => h) hw1) rfl rfl rfl (ht _ hw4) (ht _ hw2) hw5 ⟨hR.1, by show 8 + (nY + 11) + 40 * dc ≤ R.locals; omega⟩, ht _ hw3, ht _ hw3'⟩ (zpre hK hP av) rfl hn hls rfl (lv_room hr) hdg ⟨hc.1, hc.2⟩) hS kk
theorem zcall {idx n nY d dc : Nat} {y : MethodName} {cd : ByteArray} {ret : Option FieldType} {av : List Value} {v : Option Value} {k2 : kSz} (E : zE p s m args c cc nL D cA h0 q) (hM : zMet l y cd nY ret dc av k v k2) (hw : zYw R_z idx y cd nY ret n) (hn : av.length = n) (hls : ls.size = nL)
    (hC : zC D cA h0 q s.heap k H locs) (hd : dc + 1 ≤ d) (hr : (rest.map fun v => v.category).sum ≤ 8) (hdg : decode cc pc = .ok (.invokevirtual idx, 3))
    (kk : ∀ (H1 : Heap) (locs1 : List Loc), zC D cA h0 q s.heap k2 H1 locs1 → W p l e (rmD d) s m args below meth c H1 locs1 0 0 Q (F0 m (pc + 3) ls (v.toList ++ rest))) : W p l e (rmD d) s m args below meth c H locs 0 0 Q (F0 m pc ls (av.reverse ++ .ref h0 :: rest)) :=
  zcallG E.1 E.2.1 E.2.2 hM hw hn hls hC.1 hC.2 ⟨hd, by show 40 * dc + 40 ≤ 40 * d; omega⟩ ⟨Nat.le_refl _, Nat.le_refl _⟩ hr hdg (fun H1 locs1 h _ _ => kk H1 locs1 h)
theorem zld (E : zE p s m args c cc nL D cA h0 q) (hC : zC D cA h0 q s.heap k H locs) {i : Int32} (hin : vp_in i 4096) (hdg : decode cc pc = .ok (.laload, 1))
    (kk : W p l e R s m args below meth c H locs cells slots Q (F0 m (pc + 1) ls (.long (ldz k i) :: rest))) : W p l e R s m args below meth c H locs cells slots Q (F0 m pc ls (.int i :: .ref q :: rest)) :=
  va_lald (f := uz_w k) E.1.1 E.1.2.1 E.2.1 hC.1 1 0 rfl rfl hin hdg kk
theorem zst (E : zE p s m args c cc nL D cA h0 q) (hC : zC D cA h0 q s.heap k H locs) {i : Int32} {x : Int64} (hin : vp_in i 4096) (hdg : decode cc pc = .ok (.lastore, 1))
    (kk : ∀ (H1 : Heap) (locs1 : List Loc), zC D cA h0 q s.heap (stz k i x) H1 locs1 → W p l e R s m args below meth c H1 locs1 cells slots Q (F0 m (pc + 1) ls rest)) : W p l e R s m args below meth c H locs cells slots Q (F0 m pc ls (.long x :: .int i :: .ref q :: rest)) :=
  va_last (f := uz_w k) E.1.1 E.1.2.1 E.2.1 hC.1 (zD E.2.2 k) hC.2 1 0 rfl rfl hin hdg (fun H1 locs1 hP _ hS => kk H1 locs1 ⟨hP, hS⟩)
theorem zg_words (E : zE p s m args c cc nL D cA h0 q) (hC : zC D cA h0 q s.heap k H locs) (hdg : decode cc pc = .ok (.getfield 47, 3)) (kk : W p l e R s m args below meth c H locs cells slots Q (F0 m (pc + 3) ls (.ref q :: rest))) : W p l e R s m args below meth c H locs cells slots Q (F0 m pc ls (.ref h0 :: rest)) :=
  va_get (D := D) (ci := 1) (v := .ref q) (C := R_z) (T := F_z) (N := 5) E.1.1 E.1.2.1 E.1.2.2.2.2 in_z E.1.2.2.2.1 E.2.1 hC.1 0 rfl rfl 0 (by decide) (E.1.2.2.2.2 _ fl_z_words) (fun _ h => h) rfl hdg kk
theorem zg_counter (E : zE p s m args c cc nL D cA h0 q) (hC : zC D cA h0 q s.heap k H locs) (hdg : decode cc pc = .ok (.getfield 29, 3)) (kk : W p l e R s m args below meth c H locs cells slots Q (F0 m (pc + 3) ls (.int (uz_ct k) :: rest))) : W p l e R s m args below meth c H locs cells slots Q (F0 m pc ls (.ref h0 :: rest)) :=
  va_get (D := D) (ci := 1) (v := .int (uz_ct k)) (C := R_z) (T := F_z) (N := 5) E.1.1 E.1.2.1 E.1.2.2.2.2 in_z E.1.2.2.2.1 E.2.1 hC.1 0 rfl rfl 1 (by decide) (E.1.2.2.2.2 _ fl_z_counter) (fun _ h => h) rfl hdg kk
theorem zp_counter {a : Int32} (E : zE p s m args c cc nL D cA h0 q) (hC : zC D cA h0 q s.heap k H locs) (hdg : decode cc pc = .ok (.putfield 29, 3)) (kk : ∀ (H1 : Heap) (locs1 : List Loc), zC D cA h0 q s.heap (vz_ct k a) H1 locs1 → W p l e R s m args below meth c H1 locs1 cells slots Q (F0 m (pc + 3) ls rest)) : W p l e R s m args below meth c H locs cells slots Q (F0 m pc ls (.int a :: .ref h0 :: rest)) :=
  va_put (D := D) (ci := 1) (v := .int a) (ty := .int) (C := R_z) (T := F_z) (N := 5) E.1.1 E.1.2.1 E.1.2.2.2.2 in_z ty_z tyok_z nm_z E.1.2.2.2.1 E.2.1 hC.1 (zD E.2.2 k) hC.2 0 rfl rfl 1 (by decide) (E.1.2.2.2.2 _ fl_z_counter) (fun _ h => h) rfl (by decide +kernel) rfl rfl (Nat.le_of_ble_eq_true rfl) hdg (fun H1 locs1 hP _ hS => kk H1 locs1 ⟨hP, hS⟩)
theorem zg_behind (E : zE p s m args c cc nL D cA h0 q) (hC : zC D cA h0 q s.heap k H locs) (hdg : decode cc pc = .ok (.getfield 44, 3)) (kk : W p l e R s m args below meth c H locs cells slots Q (F0 m (pc + 3) ls (.int (uz_bh k) :: rest))) : W p l e R s m args below meth c H locs cells slots Q (F0 m pc ls (.ref h0 :: rest)) :=
  va_get (D := D) (ci := 1) (v := .int (uz_bh k)) (C := R_z) (T := F_z) (N := 5) E.1.1 E.1.2.1 E.1.2.2.2.2 in_z E.1.2.2.2.1 E.2.1 hC.1 0 rfl rfl 2 (by decide) (E.1.2.2.2.2 _ fl_z_behind) (fun _ h => h) rfl hdg kk
theorem zp_behind {a : Int32} (E : zE p s m args c cc nL D cA h0 q) (hC : zC D cA h0 q s.heap k H locs) (hdg : decode cc pc = .ok (.putfield 44, 3)) (kk : ∀ (H1 : Heap) (locs1 : List Loc), zC D cA h0 q s.heap (vz_bh k a) H1 locs1 → W p l e R s m args below meth c H1 locs1 cells slots Q (F0 m (pc + 3) ls rest)) : W p l e R s m args below meth c H locs cells slots Q (F0 m pc ls (.int a :: .ref h0 :: rest)) :=
  va_put (D := D) (ci := 1) (v := .int a) (ty := .int) (C := R_z) (T := F_z) (N := 5) E.1.1 E.1.2.1 E.1.2.2.2.2 in_z ty_z tyok_z nm_z E.1.2.2.2.1 E.2.1 hC.1 (zD E.2.2 k) hC.2 0 rfl rfl 2 (by decide) (E.1.2.2.2.2 _ fl_z_behind) (fun _ h => h) rfl (by decide +kernel) rfl rfl (Nat.le_of_ble_eq_true rfl) hdg (fun H1 locs1 hP _ hS => kk H1 locs1 ⟨hP, hS⟩)
theorem zg_done (E : zE p s m args c cc nL D cA h0 q) (hC : zC D cA h0 q s.heap k H locs) (hdg : decode cc pc = .ok (.getfield 37, 3)) (kk : W p l e R s m args below meth c H locs cells slots Q (F0 m (pc + 3) ls (.int (uz_dn k) :: rest))) : W p l e R s m args below meth c H locs cells slots Q (F0 m pc ls (.ref h0 :: rest)) :=
  va_get (D := D) (ci := 1) (v := .int (uz_dn k)) (C := R_z) (T := F_z) (N := 5) E.1.1 E.1.2.1 E.1.2.2.2.2 in_z E.1.2.2.2.1 E.2.1 hC.1 0 rfl rfl 3 (by decide) (E.1.2.2.2.2 _ fl_z_done) (fun _ h => h) rfl hdg kk
theorem zp_done {a : Int32} (E : zE p s m args c cc nL D cA h0 q) (hC : zC D cA h0 q s.heap k H locs) (hdg : decode cc pc = .ok (.putfield 37, 3)) (kk : ∀ (H1 : Heap) (locs1 : List Loc), zC D cA h0 q s.heap (vz_dn k a) H1 locs1 → W p l e R s m args below meth c H1 locs1 cells slots Q (F0 m (pc + 3) ls rest)) : W p l e R s m args below meth c H locs cells slots Q (F0 m pc ls (.int a :: .ref h0 :: rest)) :=
  va_put (D := D) (ci := 1) (v := .int a) (ty := .int) (C := R_z) (T := F_z) (N := 5) E.1.1 E.1.2.1 E.1.2.2.2.2 in_z ty_z tyok_z nm_z E.1.2.2.2.1 E.2.1 hC.1 (zD E.2.2 k) hC.2 0 rfl rfl 3 (by decide) (E.1.2.2.2.2 _ fl_z_done) (fun _ h => h) rfl (by decide +kernel) rfl rfl (Nat.le_of_ble_eq_true rfl) hdg (fun H1 locs1 hP _ hS => kk H1 locs1 ⟨hP, hS⟩)
theorem zg_overflow (E : zE p s m args c cc nL D cA h0 q) (hC : zC D cA h0 q s.heap k H locs) (hdg : decode cc pc = .ok (.getfield 33, 3)) (kk : W p l e R s m args below meth c H locs cells slots Q (F0 m (pc + 3) ls (.int (uz_ov k) :: rest))) : W p l e R s m args below meth c H locs cells slots Q (F0 m pc ls (.ref h0 :: rest)) :=
  va_get (D := D) (ci := 1) (v := .int (uz_ov k)) (C := R_z) (T := F_z) (N := 5) E.1.1 E.1.2.1 E.1.2.2.2.2 in_z E.1.2.2.2.1 E.2.1 hC.1 0 rfl rfl 4 (by decide) (E.1.2.2.2.2 _ fl_z_overflow) (fun _ h => h) rfl hdg kk
theorem zp_overflow {a : Int32} (E : zE p s m args c cc nL D cA h0 q) (hC : zC D cA h0 q s.heap k H locs) (hn : narrow .boolean (.int a) = .int a) (hf : fits .boolean (.int a) = true) (hdg : decode cc pc = .ok (.putfield 33, 3)) (kk : ∀ (H1 : Heap) (locs1 : List Loc), zC D cA h0 q s.heap (vz_ov k a) H1 locs1 → W p l e R s m args below meth c H1 locs1 cells slots Q (F0 m (pc + 3) ls rest)) : W p l e R s m args below meth c H locs cells slots Q (F0 m pc ls (.int a :: .ref h0 :: rest)) :=
  va_put (D := D) (ci := 1) (v := .int a) (ty := .boolean) (C := R_z) (T := F_z) (N := 5) E.1.1 E.1.2.1 E.1.2.2.2.2 in_z ty_z tyok_z nm_z E.1.2.2.2.1 E.2.1 hC.1 (zD E.2.2 k) hC.2 0 rfl rfl 4 (by decide) (E.1.2.2.2.2 _ fl_z_overflow) (fun _ h => h) rfl (by decide +kernel) hn hf (Nat.le_of_ble_eq_true rfl) hdg (fun H1 locs1 hP _ hS => kk H1 locs1 ⟨hP, hS⟩)
end TTz
