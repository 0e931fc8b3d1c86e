/-- the law's loop: both objects and their arrays, apart, all of them new -/
def lInv (D : va_G) (A : Nat → Prop) (cA cB : ClassId) (hx qx hz qz : Nat) (kx : kSx) (op ac ea : Int32) (kz : kSz) (H0 H : Heap) (locs : List Loc) : Prop :=
  va_P D clT (xW cA hx qx kx op ac ea) H ∧ va_P D clT (zW cB hz qz kz) H ∧ va_S A H0 H locs ∧ Rel kx kz
theorem lkeepZ {D : va_G} {cB : ClassId} {hx qx hz qz : Nat} {kz : kSz} {H H1 : Heap} (hP : va_P D clT (zW cB hz qz kz) H) (n1 : hz ≠ hx) (n2 : hz ≠ qx) (n3 : qz ≠ hx) (n4 : qz ≠ qx) (hk : ∀ x : Nat, x < H.size → ¬ A2 hx qx x → H1[x]? = H[x]?) : va_P D clT (zW cB hz qz kz) H1 := by
  refine hP.kept (fun k q hq => hk q.1 ((hP k q hq).lt) ?_)
  match k, hq with
  | 0, hq => cases hq; exact fun h => h.elim n1 n2
  | 1, hq => cases hq; exact fun h => h.elim n3 n4
  | k + 2, hq => cases hq
theorem lkeepX {D : va_G} {cA : ClassId} {hx qx hz qz : Nat} {kx : kSx} {op ac ea : Int32} {H H1 : Heap} (hP : va_P D clT (xW cA hx qx kx op ac ea) H) (n1 : hz ≠ hx) (n2 : hz ≠ qx) (n3 : qz ≠ hx) (n4 : qz ≠ qx) (hk : ∀ x : Nat, x < H.size → ¬ A2 hz qz x → H1[x]? = H[x]?) : va_P D clT (xW cA hx qx kx op ac ea) H1 := by
  refine hP.kept (fun k q hq => hk q.1 ((hP k q hq).lt) ?_)
  match k, hq with
  | 0, hq => cases hq; exact fun h => h.elim (fun e => n1 e.symm) (fun e => n3 e.symm)
  | 1, hq => cases hq; exact fun h => h.elim (fun e => n2 e.symm) (fun e => n4 e.symm)
  | k + 2, hq => cases hq
section LAW
variable {p : Program} {l : Launch} {e : Env} {s : State} {m : MethodId} {below : List Frame} {meth : Method} {c : Code} {Q : State → Prop} {D : va_G} {A : Nat → Prop} {cA cB : ClassId} {hx qx hz qz b L : Nat} {xs : Nat → Int32}
/-- what doesn't change in the loop -/
def lE (p : Program) (s : State) (m : MethodId) (c : Code) (D : va_G) (A : Nat → Prop) (cA cB : ClassId) (hx qx hz qz b L : Nat) (xs : Nat → Int32) : Prop :=
  CallFix p m c code 4 s #[Value.ref b] tw R_law ∧ va_K D clT [(cA, .long)] s ∧ va_K D clT [(cB, .long)] s ∧ hx ≠ qx ∧ hz ≠ qz ∧ hz ≠ hx ∧ hz ≠ qx ∧ qz ≠ hx ∧ qz ≠ qx ∧ (∀ x, A2 hx qx x → A x) ∧ (∀ x, A2 hz qz x → A x) ∧ va_X b L xs s s.heap ∧ b < s.heap.size ∧ ¬ A b ∧ L ≤ 2048
theorem l_sld {H : Heap} {locs : List Loc} {pc : Nat} {ls : Array Slot} {rest : List Value} {i : Int32} (E : lE p s m c D A cA cB hx qx hz qz b L xs) (hS : va_S A s.heap H locs) (hin : vp_in i L) (hdg : decode code pc = .ok (.iaload, 1))
    (kk : W p l e room_1 s m #[Value.ref b] below meth c H locs 4 8204 Q (F0 m (pc + 1) ls (.int (xs i.toNatClampNeg) :: rest))) : W p l e room_1 s m #[Value.ref b] below meth c H locs 4 8204 Q (F0 m pc ls (.int i :: .ref b :: rest)) := by
  obtain ⟨⟨hx0, hb0, -⟩, -, -, -, -, -, -, -, -, -, -, hX, hbl, hbA, -⟩ := E
  exact va_sld hx0 hb0 hX hbl hbA hS hin hdg kk
theorem l_slen {H : Heap} {locs : List Loc} {pc : Nat} {ls : Array Slot} {rest : List Value} (E : lE p s m c D A cA cB hx qx hz qz b L xs) (hS : va_S A s.heap H locs) (hdg : decode code pc = .ok (.arraylength, 1))
    (kk : W p l e room_1 s m #[Value.ref b] below meth c H locs 4 8204 Q (F0 m (pc + 1) ls (.int (nI L) :: rest))) : W p l e room_1 s m #[Value.ref b] below meth c H locs 4 8204 Q (F0 m pc ls (.ref b :: rest)) := by
  obtain ⟨⟨hx0, hb0, -⟩, -, -, -, -, -, -, -, -, -, -, hX, hbl, hbA, -⟩ := E
  exact va_slen hx0 hb0 hX hbl hbA hS hdg kk
def l_arg2 (xs : Nat → Int32) (i : Nat) : Int64 := ((xs (nI i + 2).toNatClampNeg).toInt64 <<< ((32 : Int32).toInt64 &&& 63)) ||| ((xs (nI i + 3).toNatClampNeg).toInt64 &&& (4294967295 : Int64))
/-- the calls, with what they do to both -/
theorem l_xput {H : Heap} {locs : List Loc} {pc : Nat} {ls : Array Slot} {rest : List Value} {kx : kSx} {op ac ea : Int32} {kz : kSz} {a : Int32} {v : Int64} (E : lE p s m c D A cA cB hx qx hz qz b L xs) (hls : ls.size = 4) (hP : va_P D clT (xW cA hx qx kx op ac ea) H) (hZ : va_P D clT (zW cB hz qz kz) H) (hS : va_S A s.heap H locs) (hr : (rest.map fun v => v.category).sum ≤ 8) (hdg : decode code pc = .ok (.invokevirtual 15, 3))
    (kk : ∀ (H1 : Heap) (locs1 : List Loc), va_P D clT (xW cA hx qx (fx_put kx op ac ea a v).2 op ac ea) H1 → va_P D clT (zW cB hz qz kz) H1 → va_S A s.heap H1 locs1 → W p l e room_1 s m #[Value.ref b] below meth c H1 locs1 4 8204 Q (F0 m (pc + 3) ls (.int (fx_put kx op ac ea a v).1 :: rest))) : W p l e room_1 s m #[Value.ref b] below meth c H locs 4 8204 Q (F0 m pc ls (.long v :: .int a :: .ref hx :: rest)) := by
  obtain ⟨E0, hKx, hKz, n0, n0', n1, n2, n3, n4, hAx, hAz, -⟩ := E
  exact xcallL (av := [.int a, .long v]) E0 hKx n0 (mx_put l kx op ac ea a v) gl_x_put rfl hls hP hS hAx (by decide) (by decide) hr hdg (fun H1 locs1 h1 h2 h3 => kk H1 locs1 h1 (lkeepZ hZ n1 n2 n3 n4 h3) h2)
theorem l_xget {H : Heap} {locs : List Loc} {pc : Nat} {ls : Array Slot} {rest : List Value} {kx : kSx} {op ac ea : Int32} {kz : kSz} {a : Int32} (E : lE p s m c D A cA cB hx qx hz qz b L xs) (hls : ls.size = 4) (hP : va_P D clT (xW cA hx qx kx op ac ea) H) (hZ : va_P D clT (zW cB hz qz kz) H) (hS : va_S A s.heap H locs) (hr : (rest.map fun v => v.category).sum ≤ 8) (hdg : decode code pc = .ok (.invokevirtual 20, 3))
    (kk : ∀ (H1 : Heap) (locs1 : List Loc), va_P D clT (xW cA hx qx kx op ac ea) H1 → va_P D clT (zW cB hz qz kz) H1 → va_S A s.heap H1 locs1 → W p l e room_1 s m #[Value.ref b] below meth c H1 locs1 4 8204 Q (F0 m (pc + 3) ls (.long (fx_get kx op ac ea a) :: rest))) : W p l e room_1 s m #[Value.ref b] below meth c H locs 4 8204 Q (F0 m pc ls (.int a :: .ref hx :: rest)) := by
  obtain ⟨E0, hKx, hKz, n0, n0', n1, n2, n3, n4, hAx, hAz, -⟩ := E
  exact xcallL (av := [.int a]) E0 hKx n0 (mx_get l kx op ac ea a) gl_x_get rfl hls hP hS hAx (by decide) (by decide) hr hdg (fun H1 locs1 h1 h2 h3 => kk H1 locs1 h1 (lkeepZ hZ n1 n2 n3 n4 h3) h2)
theorem l_xlook {H : Heap} {locs : List Loc} {pc : Nat} {ls : Array Slot} {rest : List Value} {kx : kSx} {op ac ea : Int32} {kz : kSz} {a : Int32} (E : lE p s m c D A cA cB hx qx hz qz b L xs) (hls : ls.size = 4) (hP : va_P D clT (xW cA hx qx kx op ac ea) H) (hZ : va_P D clT (zW cB hz qz kz) H) (hS : va_S A s.heap H locs) (hr : (rest.map fun v => v.category).sum ≤ 8) (hdg : decode code pc = .ok (.invokevirtual 30, 3))
    (kk : ∀ (H1 : Heap) (locs1 : List Loc), va_P D clT (xW cA hx qx kx op ac ea) H1 → va_P D clT (zW cB hz qz kz) H1 → va_S A s.heap H1 locs1 → W p l e room_1 s m #[Value.ref b] below meth c H1 locs1 4 8204 Q (F0 m (pc + 3) ls (.int (fx_look kx op ac ea a) :: rest))) : W p l e room_1 s m #[Value.ref b] below meth c H locs 4 8204 Q (F0 m pc ls (.int a :: .ref hx :: rest)) := by
  obtain ⟨E0, hKx, hKz, n0, n0', n1, n2, n3, n4, hAx, hAz, -⟩ := E
  exact xcallL (av := [.int a]) E0 hKx n0 (mx_look l kx op ac ea a) gl_x_look rfl hls hP hS hAx (by decide) (by decide) hr hdg (fun H1 locs1 h1 h2 h3 => kk H1 locs1 h1 (lkeepZ hZ n1 n2 n3 n4 h3) h2)
theorem l_xgo {H : Heap} {locs : List Loc} {pc : Nat} {ls : Array Slot} {rest : List Value} {kx : kSx} {op ac ea : Int32} {kz : kSz} {a n f : Int32} (E : lE p s m c D A cA cB hx qx hz qz b L xs) (hls : ls.size = 4) (hP : va_P D clT (xW cA hx qx kx op ac ea) H) (hZ : va_P D clT (zW cB hz qz kz) H) (hS : va_S A s.heap H locs) (hr : (rest.map fun v => v.category).sum ≤ 8) (hdg : decode code pc = .ok (.invokevirtual 25, 3))
    (kk : ∀ (H1 : Heap) (locs1 : List Loc), va_P D clT (xW cA hx qx (fx_go kx op ac ea a n f).2.1 (fx_go kx op ac ea a n f).2.2.1 (fx_go kx op ac ea a n f).2.2.2.1 (fx_go kx op ac ea a n f).2.2.2.2) H1 → va_P D clT (zW cB hz qz kz) H1 → va_S A s.heap H1 locs1 → W p l e room_1 s m #[Value.ref b] below meth c H1 locs1 4 8204 Q (F0 m (pc + 3) ls (.int (fx_go kx op ac ea a n f).1 :: rest))) : W p l e room_1 s m #[Value.ref b] below meth c H locs 4 8204 Q (F0 m pc ls (.int f :: .int n :: .int a :: .ref hx :: rest)) := by
  obtain ⟨E0, hKx, hKz, n0, n0', n1, n2, n3, n4, hAx, hAz, -⟩ := E
  exact xcallL (av := [.int a, .int n, .int f]) E0 hKx n0 (mx_go l kx op ac ea a n f) gl_x_go rfl hls hP hS hAx (by decide) (by decide) hr hdg (fun H1 locs1 h1 h2 h3 => kk H1 locs1 h1 (lkeepZ hZ n1 n2 n3 n4 h3) h2)
theorem l_zput {H : Heap} {locs : List Loc} {pc : Nat} {ls : Array Slot} {rest : List Value} {kx : kSx} {op ac ea : Int32} {kz : kSz} {a : Int32} {v : Int64} (E : lE p s m c D A cA cB hx qx hz qz b L xs) (hls : ls.size = 4) (hP : va_P D clT (xW cA hx qx kx op ac ea) H) (hZ : va_P D clT (zW cB hz qz kz) H) (hS : va_S A s.heap H locs) (hr : (rest.map fun v => v.category).sum ≤ 8) (hdg : decode code pc = .ok (.invokevirtual 19, 3))
    (kk : ∀ (H1 : Heap) (locs1 : List Loc), va_P D clT (xW cA hx qx kx op ac ea) H1 → va_P D clT (zW cB hz qz (fz_put kz a v).2) H1 → va_S A s.heap H1 locs1 → W p l e room_1 s m #[Value.ref b] below meth c H1 locs1 4 8204 Q (F0 m (pc + 3) ls (.int (fz_put kz a v).1 :: rest))) : W p l e room_1 s m #[Value.ref b] below meth c H locs 4 8204 Q (F0 m pc ls (.long v :: .int a :: .ref hz :: rest)) := by
  obtain ⟨E0, hKx, hKz, n0, n0', n1, n2, n3, n4, hAx, hAz, -⟩ := E
  exact zcallL (av := [.int a, .long v]) E0 hKz n0' (mz_put l kz a v) gl_z_put rfl hls hZ hS hAz (by decide) (by decide) hr hdg (fun H1 locs1 h1 h2 h3 => kk H1 locs1 (lkeepX hP n1 n2 n3 n4 h3) h1 h2)
theorem l_zget {H : Heap} {locs : List Loc} {pc : Nat} {ls : Array Slot} {rest : List Value} {kx : kSx} {op ac ea : Int32} {kz : kSz} {a : Int32} (E : lE p s m c D A cA cB hx qx hz qz b L xs) (hls : ls.size = 4) (hP : va_P D clT (xW cA hx qx kx op ac ea) H) (hZ : va_P D clT (zW cB hz qz kz) H) (hS : va_S A s.heap H locs) (hr : (rest.map fun v => v.category).sum ≤ 8) (hdg : decode code pc = .ok (.invokevirtual 24, 3))
    (kk : ∀ (H1 : Heap) (locs1 : List Loc), va_P D clT (xW cA hx qx kx op ac ea) H1 → va_P D clT (zW cB hz qz kz) H1 → va_S A s.heap H1 locs1 → W p l e room_1 s m #[Value.ref b] below meth c H1 locs1 4 8204 Q (F0 m (pc + 3) ls (.long (fz_get kz a) :: rest))) : W p l e room_1 s m #[Value.ref b] below meth c H locs 4 8204 Q (F0 m pc ls (.int a :: .ref hz :: rest)) := by
  obtain ⟨E0, hKx, hKz, n0, n0', n1, n2, n3, n4, hAx, hAz, -⟩ := E
  exact zcallL (av := [.int a]) E0 hKz n0' (mz_get l kz a) gl_z_get rfl hls hZ hS hAz (by decide) (by decide) hr hdg (fun H1 locs1 h1 h2 h3 => kk H1 locs1 (lkeepX hP n1 n2 n3 n4 h3) h1 h2)
theorem l_zlook {H : Heap} {locs : List Loc} {pc : Nat} {ls : Array Slot} {rest : List Value} {kx : kSx} {op ac ea : Int32} {kz : kSz} {a : Int32} (E : lE p s m c D A cA cB hx qx hz qz b L xs) (hls : ls.size = 4) (hP : va_P D clT (xW cA hx qx kx op ac ea) H) (hZ : va_P D clT (zW cB hz qz kz) H) (hS : va_S A s.heap H locs) (hr : (rest.map fun v => v.category).sum ≤ 8) (hdg : decode code pc = .ok (.invokevirtual 34, 3))
    (kk : ∀ (H1 : Heap) (locs1 : List Loc), va_P D clT (xW cA hx qx kx op ac ea) H1 → va_P D clT (zW cB hz qz kz) H1 → va_S A s.heap H1 locs1 → W p l e room_1 s m #[Value.ref b] below meth c H1 locs1 4 8204 Q (F0 m (pc + 3) ls (.int (fz_look kz a) :: rest))) : W p l e room_1 s m #[Value.ref b] below meth c H locs 4 8204 Q (F0 m pc ls (.int a :: .ref hz :: rest)) := by
  obtain ⟨E0, hKx, hKz, n0, n0', n1, n2, n3, n4, hAx, hAz, -⟩ := E
  exact zcallL (av := [.int a]) E0 hKz n0' (mz_look l kz a) gl_z_look rfl hls hZ hS hAz (by decide) (by decide) hr hdg (fun H1 locs1 h1 h2 h3 => kk H1 locs1 (lkeepX hP n1 n2 n3 n4 h3) h1 h2)
theorem l_zgo {H : Heap} {locs : List Loc} {pc : Nat} {ls : Array Slot} {rest : List Value} {kx : kSx} {op ac ea : Int32} {kz : kSz} {a n f : Int32} (E : lE p s m c D A cA cB hx qx hz qz b L xs) (hls : ls.size = 4) (hP : va_P D clT (xW cA hx qx kx op ac ea) H) (hZ : va_P D clT (zW cB hz qz kz) H) (hS : va_S A s.heap H locs) (hgd : ¬ (fz_in a.toInt64 (0 : Int64) (4095 : Int64)) = 0 → zgood 501 (vz_dn (vz_ct kz a) (0 : Int32)) ∧ zgood 501 (vz_dn (vz_ov (vz_ct kz a) (0 : Int32)) (0 : Int32))) (hr : (rest.map fun v => v.category).sum ≤ 8) (hdg : decode code pc = .ok (.invokevirtual 29, 3))
    (kk : ∀ (H1 : Heap) (locs1 : List Loc), va_P D clT (xW cA hx qx kx op ac ea) H1 → va_P D clT (zW cB hz qz (fz_go kz a n f).2) H1 → va_S A s.heap H1 locs1 → W p l e room_1 s m #[Value.ref b] below meth c H1 locs1 4 8204 Q (F0 m (pc + 3) ls (.int (fz_go kz a n f).1 :: rest))) : W p l e room_1 s m #[Value.ref b] below meth c H locs 4 8204 Q (F0 m pc ls (.int f :: .int n :: .int a :: .ref hz :: rest)) := by
  obtain ⟨E0, hKx, hKz, n0, n0', n1, n2, n3, n4, hAx, hAz, -⟩ := E
  exact zcallL (av := [.int a, .int n, .int f]) E0 hKz n0' (mz_go l kz a n f hgd) gl_z_go rfl hls hZ hS hAz (by decide) (by decide) hr hdg (fun H1 locs1 h1 h2 h3 => kk H1 locs1 (lkeepX hP n1 n2 n3 n4 h3) h1 h2)
end LAW
