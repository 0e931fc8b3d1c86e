theorem l_fsx : ∀ j, j < 7 → defaultValue (ty_x j) = vp_V [.null, .int 0, .int 0, .int 0, .int 0, .int 0, .int 0] j := fun j hj => by
  match j, hj with
  | 0, _ => rfl
  | 1, _ => rfl
  | 2, _ => rfl
  | 3, _ => rfl
  | 4, _ => rfl
  | 5, _ => rfl
  | 6, _ => rfl
theorem l_fsz : ∀ j, j < 5 → defaultValue (ty_z j) = vp_V [.null, .int 0, .int 0, .int 0, .int 0] j := fun j hj => by
  match j, hj with
  | 0, _ => rfl
  | 1, _ => rfl
  | 2, _ => rfl
  | 3, _ => rfl
  | 4, _ => rfl
set_option maxRecDepth 100000 in
set_option maxHeartbeats 4000000 in
/-- YOUR PART: from the entry, for every script of at most 2048 ints, the law comes to its end with true -/
theorem whole_start {p : Program} {e : Env} {s : State} {m : MethodId} {below : List Frame} {meth : Method} {c : Code} (l : Launch) {b L : Nat} {xs : Nat → Int32} (hL : L ≤ 2048) (C0 : lw_At p s m meth c b L xs) : W p l e room_1 s m #[Value.ref b] below meth c s.heap [] 0 0 (lw_Z below #[Value.ref b] s) (entryFrame m ([Value.ref b] : List Value).toArray 4) := by
  obtain ⟨hx, hb, hr, hml, hown, hts0, hX, hbl, hlocks, -⟩ := C0
  have hts : ∀ w ∈ tw, w.before #[Value.ref b] s = true := fun w h => hts0 w (tw_sub w h)
  obtain ⟨cX, iX, hKX⟩ := u_known (n := 7) hts in_x (hts _ wb_x)
  obtain ⟨cZ, iZ, hKZ⟩ := u_known (n := 5) hts in_z (hts _ wb_z)
  have hK0 : va_K ((fun n => if n = 0 then cX else cZ), (fun n => if n = 0 then iX else iZ)) clT [] s := by
    refine ⟨fun c q hq => ?_, fun k q hk => (by cases hk)⟩
    match c, hq with
    | 0, hq => cases hq; exact hKX
    | 1, hq => cases hq; exact hKZ
    | c + 2, hq => cases hq
  obtain ⟨dC, dI, hK⟩ : ∃ (dC : Nat → ClassId) (dI : Nat → Nat → Nat), va_K (dC, dI) clT [] s := ⟨_, _, hK0⟩
  have hP : va_P (dC, dI) clT [] s.heap := fun k q h => by cases h
  obtain ⟨A, hAd⟩ : ∃ A : Nat → Prop, A = fun q => s.heap.size ≤ q := ⟨_, rfl⟩
  have hA : ∀ q : Nat, s.heap.size ≤ q → A q := fun q h => by rw [hAd]; exact h
  have hAs : ∀ q : Nat, A q → s.heap.size ≤ q := fun q h => by rw [hAd] at h; exact h
  have hD : va_D A [] := ⟨fun i j a b h => (by cases h), fun k q h => (by cases h)⟩
  have hS : va_S A s.heap s.heap [] := va_S.rf
  have hl := lv_entry ([.ref b]) (n := 4) (Nat.le_of_ble_eq_true rfl)
  rw [lg_entry_eq]
  generalize (lg_sl ([.ref b]) ++ List.replicate (4 - (lg_sl ([.ref b])).length) Slot.unset).toArray = ls at hl ⊢
  have hl : lv_has ls 4 [(0, .ref b)] := hl
  have hF : CallFix p m c code 4 s #[Value.ref b] tw R_law := ⟨hx, hb, hml, hown, hts⟩
  refine va_new (ci := 0) (fs := [.null, .int 0, .int 0, .int 0, .int 0, .int 0, .int 0]) (C := R_x) (T := F_x) (N := 7) hx hb hts in_x ty_x tyok_x hown (hts _ wk_x) (hts _ wb_x) (hts _ wn_x) hK hP hD hS hA rfl l_fsx (by decide) (by decide) dl_0 (fun o1 H hP hD hS => ?_)
  have hP : va_P (dC, dI) clT [(o1, .inr (0, [.null, .int 0, .int 0, .int 0, .int 0, .int 0, .int 0]))] H := hP
  have hD : va_D A [(o1, .inr (0, [.null, .int 0, .int 0, .int 0, .int 0, .int 0, .int 0]))] := hD
  refine lv_dup hx hb dl_3 rfl ?_
  have hFc := va_free (wc := [(o1, .inr (0, [.null, .int 0, .int 0, .int 0, .int 0, .int 0, .int 0]))]) hD hS hA [0] rfl
  refine va_callv (va_runI (As := []) (rest := [.ref o1]) hF (mx_init l dC dI o1 H.size) (cwI 0 hts (tw_in (fun _ h => h) wc_x_init) rfl rfl rfl (hts _ wn_x) (hts _ wl_l_9) (hts _ wi_x_init) rfl (by decide +kernel) (by decide)) ⟨fun a U g mk q => by obtain ⟨q0, q1, qP, qK, qD⟩ := q; exact ⟨q0, q1, qP, va_K.moved (u := U) (U := U.calling g mk a) (Vm.Alike.refl U.vm) qK, qD⟩, fun U hU hW => ⟨rfl, by rw [hU], by rw [hU]; exact hP, va_K.moved hW.alike hK, hD.weaken (fun _ _ _ _ => trivial)⟩⟩ rfl rfl hl.1 rfl (lv_room (Nat.le_of_ble_eq_true rfl)) dl_4 (by decide)) hS (fun q _ h => hFc q h) hFc (fun u t H1 locs ht hvm hpost hB hz1 hk1 hS => ?_)
  obtain ⟨q1, cA⟩ := u
  obtain ⟨hP1, hK1, hD1⟩ := hB
  rw [ht] at hP1
  have hKx := va_K.moved hvm.symm hK1
  obtain ⟨hP, hD⟩ := va_join (wr := []) hP hD [0] [] rfl rfl (by decide) (by decide) hk1 hFc hP1 hD1
  have hP : va_P (dC, dI) clT (xW cA o1 q1 k0x 0 0 0) H1 := hP
  have hD : va_D A (xW cA o1 q1 k0x 0 0 0) := hD
  have hKx : va_K (dC, dI) clT [(cA, .long)] s := hKx
  refine lv_astore_n (lv' := [(1, .ref o1), (0, .ref b)]) hx hb dl_7 rfl hl (by decide) rfl (fun ls hl => ?_)
  refine va_new (ci := 1) (fs := [.null, .int 0, .int 0, .int 0, .int 0]) (C := R_z) (T := F_z) (N := 5) hx hb hts in_z ty_z tyok_z hown (hts _ wk_z) (hts _ wb_z) (hts _ wn_z) hK hP hD hS hA rfl l_fsz (by decide) (by decide) dl_8 (fun o2 H hP hD hS => ?_)
  refine lv_dup hx hb dl_11 rfl ?_
  have hFc := va_free (wc := [(o2, .inr (1, [.null, .int 0, .int 0, .int 0, .int 0]))]) hD hS hA [2] rfl
  have hPc := hP.sub (ws' := [(o2, .inr (1, [.null, .int 0, .int 0, .int 0, .int 0]))]) [2] rfl
  have hDc := hD.sub (ws' := [(o2, .inr (1, [.null, .int 0, .int 0, .int 0, .int 0]))]) [2] (by decide) rfl
  refine va_callv (va_runI (As := []) (rest := [.ref o2]) hF (mz_init l dC dI o2 H.size) (cwI 0 hts (tw_in (fun _ h => h) wc_z_init) rfl rfl rfl (hts _ wn_z) (hts _ wl_l_12) (hts _ wi_z_init) rfl (by decide +kernel) (by decide)) ⟨fun a U g mk q => by obtain ⟨q0, q1, qP, qK, qD⟩ := q; exact ⟨q0, q1, qP, va_K.moved (u := U) (U := U.calling g mk a) (Vm.Alike.refl U.vm) qK, qD⟩, fun U hU hW => ⟨rfl, by rw [hU], by rw [hU]; exact hPc, va_K.moved hW.alike hK, hDc.weaken (fun _ _ _ _ => trivial)⟩⟩ rfl rfl hl.1 rfl (lv_room (Nat.le_of_ble_eq_true rfl)) dl_12 (by decide)) hS (fun q _ h => hFc q h) hFc (fun u t H1 locs ht hvm hpost hB hz1 hk1 hS => ?_)
  obtain ⟨q2, cB⟩ := u
  obtain ⟨hP1, hK1, hD1⟩ := hB
  rw [ht] at hP1
  have hKz := va_K.moved hvm.symm hK1
  obtain ⟨hP, hD⟩ := va_join (wr := xW cA o1 q1 k0x 0 0 0) hP hD [2] [0, 1] rfl rfl (by decide) (by decide) hk1 hFc hP1 hD1
  have hPx : va_P (dC, dI) clT (xW cA o1 q1 k0x 0 0 0) H1 := hP.sub [0, 1] rfl
  have hPz : va_P (dC, dI) clT (zW cB o2 q2 k0z) H1 := hP.sub [2, 3] rfl
  have hKz : va_K (dC, dI) clT [(cB, .long)] s := hKz
  have ap : ∀ (i j : Nat) (x y : Nat × va_E), (xW cA o1 q1 k0x 0 0 0 ++ zW cB o2 q2 k0z)[i]? = some x → (xW cA o1 q1 k0x 0 0 0 ++ zW cB o2 q2 k0z)[j]? = some y → i ≠ j → x.1 ≠ y.1 := fun i j x y h1 h2 hn e => hn (hD.1 i j x y h1 h2 e)
  have a01 : o1 ≠ q1 := ap 0 1 _ _ rfl rfl (by decide)
  have a23 : o2 ≠ q2 := ap 2 3 _ _ rfl rfl (by decide)
  have a20 : o2 ≠ o1 := ap 2 0 _ _ rfl rfl (by decide)
  have a21 : o2 ≠ q1 := ap 2 1 _ _ rfl rfl (by decide)
  have a30 : q2 ≠ o1 := ap 3 0 _ _ rfl rfl (by decide)
  have a31 : q2 ≠ q1 := ap 3 1 _ _ rfl rfl (by decide)
  have iA : ∀ (i : Nat) (x : Nat × va_E), (xW cA o1 q1 k0x 0 0 0 ++ zW cB o2 q2 k0z)[i]? = some x → A x.1 := hD.2
  have hAx : ∀ x, A2 o1 q1 x → A x := fun x h => by
    rcases h with h | h
    · rw [h]; exact iA 0 _ rfl
    · rw [h]; exact iA 1 _ rfl
  have hAz : ∀ x, A2 o2 q2 x → A x := fun x h => by
    rcases h with h | h
    · rw [h]; exact iA 2 _ rfl
    · rw [h]; exact iA 3 _ rfl
  refine lv_astore_n (lv' := [(2, .ref o2), (1, .ref o1), (0, .ref b)]) hx hb dl_15 rfl hl (by decide) rfl (fun ls hl => ?_)
  refine lv_iconst (v := 0) hx hb dl_16 (by decide) ?_
  refine lv_istore_n (lv' := [(3, .int 0), (2, .ref o2), (1, .ref o1), (0, .ref b)]) hx hb dl_17 rfl hl (by decide) rfl (fun ls hl => ?_)
  refine W.widen (k := 4) (n := 8204) (by decide) (by decide) ?_
  exact law_loop ⟨hF, hKx, hKz, a01, a23, a20, a21, a30, a31, hAx, hAz, hX, hbl, fun h => absurd (hAs b h) (by omega), hL⟩ hr hlocks hAs (L + 1) 0 k0x 0 0 0 k0z H1 locs ls (by omega) (by omega) hPx hPz hS rel_0 (lv_sub hl [3, 2, 1, 0] rfl)
