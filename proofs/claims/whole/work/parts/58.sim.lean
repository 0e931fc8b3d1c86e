section SIM
variable {kx : kSx} {kz : kSz}
theorem Rel.ld (h : Rel kx kz) : WR kx kz := by
  obtain ⟨M, h1, h2, -⟩ := h
  exact fun i => ⟨M i.toNatClampNeg, h1 _, h2 _⟩
theorem sim_put {kx : kSx} {kz : kSz} (op ac ea a : Int32) (v : Int64) (h : Rel kx kz) : (fx_put kx op ac ea a v).1 = (fz_put kz a v).1 ∧ Rel (fx_put kx op ac ea a v).2 (fz_put kz a v).2 := by
  unfold fx_put fz_put
  have e : fx_isThere a = 0 ↔ (fz_in a.toInt64 (0 : Int64) (4095 : Int64)) = 0 := by
    constructor
    · intro q
      by_cases z : (fz_in a.toInt64 (0 : Int64) (4095 : Int64)) = 0
      · exact z
      · exact absurd (vin_o (vin_zin z)) ((there_i a).mp q)
    · intro q
      rw [there_i]
      intro z
      unfold fz_in at q
      rw [if_neg (by rw [Int64.lt_iff_toInt_lt, Int32.toInt_toInt64]; show ¬ a.toInt < 0; omega), if_neg (by rw [Int64.lt_iff_toInt_lt, Int32.toInt_toInt64, show (4095 : Int64).toInt = 4095 from rfl]; omega)] at q
      exact absurd q (by decide)
  by_cases h1 : fx_isThere a = 0
  · rw [if_pos h1, if_pos (e.mp h1)]; exact ⟨rfl, h⟩
  · rw [if_neg h1, if_neg (fun q => h1 (e.mpr q)), sgn_eq, and_all]
    obtain ⟨M, h2, h3, h4⟩ := h
    refine ⟨rfl, fun j => if j = a.toNatClampNeg then NN v else M j, fun j => ?_, fun j => ?_, h4⟩
    · show (if j = a.toNatClampNeg then xv (NN v) else ux_w kx j) = xv (if j = a.toNatClampNeg then NN v else M j)
      by_cases q : j = a.toNatClampNeg
      · rw [if_pos q, if_pos q]
      · rw [if_neg q, if_neg q]; exact h2 j
    · show (if j = a.toNatClampNeg then zv (NN v) else uz_w kz j) = zv (if j = a.toNatClampNeg then NN v else M j)
      by_cases q : j = a.toNatClampNeg
      · rw [if_pos q, if_pos q]
      · rw [if_neg q, if_neg q]; exact h3 j
theorem there_zin (a : Int32) : fx_isThere a = 0 ↔ (fz_in a.toInt64 (0 : Int64) (4095 : Int64)) = 0 := by
  constructor
  · intro q
    by_cases z : (fz_in a.toInt64 (0 : Int64) (4095 : Int64)) = 0
    · exact z
    · exact absurd (vin_o (vin_zin z)) ((there_i a).mp q)
  · intro q
    rw [there_i]
    intro z
    unfold fz_in at q
    rw [if_neg (by rw [Int64.lt_iff_toInt_lt, Int32.toInt_toInt64]; show ¬ a.toInt < 0; omega), if_neg (by rw [Int64.lt_iff_toInt_lt, Int32.toInt_toInt64, show (4095 : Int64).toInt = 4095 from rfl]; omega)] at q
    exact absurd q (by decide)
theorem sim_get {kx : kSx} {kz : kSz} (op ac ea a : Int32) (h : Rel kx kz) : fx_get kx op ac ea a = fz_get kz a := by
  unfold fx_get fz_get
  obtain ⟨b, e1, e2⟩ := h.ld a
  by_cases h1 : fx_isThere a = 0
  · rw [if_pos h1, if_pos ((there_zin a).mp h1)]
  · rw [if_neg h1, if_neg (fun q => h1 ((there_zin a).mpr q)), e1, e2, zsgn_eq]
theorem sim_look {kx : kSx} {kz : kSz} (op ac ea a : Int32) (h : Rel kx kz) : fx_look kx op ac ea a = fz_look kz a := by
  obtain ⟨M, h1, h2, h3, h4, h5⟩ := h
  unfold fx_look fz_look
  rw [h3, h4, h5]
/-- between two instructions -/
def RL (kx : kSx) (kz : kSz) : Prop := Rel kx kz ∧ 0 ≤ (uz_ct kz).toInt ∧ (uz_ct kz).toInt ≤ 300000
theorem fetch_gone (n : Nat) (k : kSx) (op ac ea v2 v3 : Int32) (h : fx_isThere v2 = 0) : (fx_fetch_4 n k op ac ea v2 v3).1 = 0 ∧ (fx_fetch_4 n k op ac ea v2 v3).2.1 = k := by
  cases n with
  | zero => exact ⟨rfl, rfl⟩
  | succ n =>
    rw [fx_fetch_4, if_pos h]
    by_cases h8 : (8 : Int32) < v3
    · rw [if_pos h8]; exact ⟨rfl, rfl⟩
    · rw [if_neg h8]; exact ⟨rfl, rfl⟩
theorem ac_AC (x : Int32) : AC (x &&& (15 : Int32)) := by
  obtain ⟨j, hj, e⟩ := pk_andE x (m := 15) 4 (by decide)
  have hj : j < 16 := hj
  unfold AC
  rw [e, nI_toInt (by omega)]; omega
theorem fetch_c (hW : WR kx kz) : ∀ (n : Nat) (op ac ea v2 v3 : Int32), ¬ fx_isThere v2 = 0 → (9 - v3.toInt).toNat < n →
    ((fx_fetch_4 n kx op ac ea v2 v3).1 = 0 ∧ (fx_fetch_4 n kx op ac ea v2 v3).2.1 = kx ∧ fz_instruction_34 n kz (ldz kz v2) v3 = ((2 : Int32), kz)) ∨
    (∃ (op' ac' ea' : Int32) (o : Nat), fx_fetch_4 n kx op ac ea v2 v3 = ((1 : Int32), (kx, op', ac', ea')) ∧ o < 512 ∧ op' = nI o ∧ AC ac' ∧ EA ea' ∧ fz_instruction_34 n kz (ldz kz v2) v3 = fz_perform kz op' ac' ea') := by
  intro n
  induction n with
  | zero => intro op ac ea v2 v3 _ h; exact absurd h (Nat.not_lt_zero _)
  | succ n ih =>
    intro op ac ea v2 v3 ht hmu
    rw [fx_fetch_4, fz_instruction_34]
    by_cases h8 : (8 : Int32) < v3
    · rw [if_pos h8, if_pos h8]; exact Or.inl ⟨rfl, rfl, rfl⟩
    · rw [if_neg h8, if_neg h8, if_neg ht]
      obtain ⟨b, e1, e2⟩ := hW v2
      rw [e1, e2, f511, f15 b (n := 23) (by decide) (by decide)]
      obtain ⟨o, ho, eo⟩ := pk_andE (((xv b) >>> ((27 : Int32).toInt64 &&& 63)).toInt32) (m := 511) 9 (by decide)
      rw [f511] at eo
      have ho : o < 512 := ho
      have eA := addr_c (op := (((zv b) >>> ((27 : Int32).toInt64 &&& 63)).toInt32)) (ac := ((((zv b) >>> ((23 : Int32).toInt64 &&& 63)).toInt32) &&& (15 : Int32))) (ea := ea) 10 b 0 hW
      have hEA := addr_EA (kx := kx) (op := (((zv b) >>> ((27 : Int32).toInt64 &&& 63)).toInt32)) (ac := ((((zv b) >>> ((23 : Int32).toInt64 &&& 63)).toInt32) &&& (15 : Int32))) (ea := ea) 10 (xv b) 0
      rw [eA] at hEA
      have eX : fx_address kx (((zv b) >>> ((27 : Int32).toInt64 &&& 63)).toInt32) ((((zv b) >>> ((23 : Int32).toInt64 &&& 63)).toInt32) &&& (15 : Int32)) ea (xv b) = fz_address kz (zv b) := eA
      have hEA : fz_address kz (zv b) = -1 ∨ EA (fz_address kz (zv b)) := hEA
      rw [eX]
      have hAC := ac_AC (((zv b) >>> ((23 : Int32).toInt64 &&& 63)).toInt32)
      generalize fz_address kz (zv b) = e at *
      generalize ((((zv b) >>> ((23 : Int32).toInt64 &&& 63)).toInt32) &&& (15 : Int32)) = A at *
      generalize (((zv b) >>> ((27 : Int32).toInt64 &&& 63)).toInt32) = O at *
      by_cases hm : e = (-1 : Int32)
      · rw [if_pos hm, if_neg (show ¬ (0 : Int32) ≤ e by rw [hm]; decide)]; exact Or.inl ⟨rfl, rfl, rfl⟩
      · have hE := hEA.resolve_left hm
        rw [if_neg hm, if_pos hE.le]
        by_cases hx : O = (174 : Int32)
        · rw [if_pos hx, if_pos hx]
          by_cases h4 : e < (4096 : Int32)
          · rw [if_pos h4]
            have ht2 : ¬ fx_isThere e = 0 := by rw [there_i, Decidable.not_not]; rw [i32_lt, show (4096 : Int32).toInt = 4096 from rfl] at h4; exact ⟨hE.1, h4⟩
            exact ih _ _ _ e (v3 + 1) ht2 (mu_up9 h8 hmu)
          · rw [if_neg h4]
            have ht2 : fx_isThere e = 0 := by rw [there_i]; rw [i32_lt, show (4096 : Int32).toInt = 4096 from rfl] at h4; omega
            have q := fetch_gone n kx O A e e (v3 + 1) ht2
            exact Or.inl ⟨q.1, q.2, rfl⟩
        · rw [if_neg hx, if_neg hx]
          exact Or.inr ⟨O, A, e, o, rfl, ho, eo, hAC, hE, rfl⟩
theorem step_c (h : RL kx kz) (op ac ea : Int32) : (fx_step kx op ac ea).1 = (fz_instruction kz).1 ∧ ((fx_step kx op ac ea).1 = 2 → Rel (fx_step kx op ac ea).2.1 (fz_instruction kz).2) ∧ (¬ (fx_step kx op ac ea).1 = 2 → RL (vx_dn (fx_step kx op ac ea).2.1 (ux_dn (fx_step kx op ac ea).2.1 + 1)) (znext kz)) := by
  obtain ⟨hR, hc0, hcB⟩ := h
  have hW := hR.ld
  obtain ⟨M, h1, h2, h3, h4, h5⟩ := hR
  have eI : fz_instruction kz = if (uz_ct kz) < (4096 : Int32) then fz_instruction_34 10 (vz_bh kz ((uz_ct kz) + (1 : Int32))) (ldz kz (uz_ct kz)) (0 : Int32) else ((2 : Int32), kz) := rfl
  have eS : fx_step kx op ac ea = fx_step_10 ((fx_fetch_4 10 kx op ac ea (ux_pc kx) 0).2.1) ((fx_fetch_4 10 kx op ac ea (ux_pc kx) 0).2.2.1) ((fx_fetch_4 10 kx op ac ea (ux_pc kx) 0).2.2.2.1) ((fx_fetch_4 10 kx op ac ea (ux_pc kx) 0).2.2.2.2) (ux_pc kx) ((fx_fetch_4 10 kx op ac ea (ux_pc kx) 0).1) := rfl
  have fault : ∀ k2 : kSz, uz_w k2 = uz_w kz → uz_ct k2 = uz_ct kz → uz_ov k2 = uz_ov kz → uz_dn k2 = uz_dn kz → fz_instruction kz = ((2 : Int32), k2) → (fx_fetch_4 10 kx op ac ea (ux_pc kx) 0).1 = 0 → (fx_fetch_4 10 kx op ac ea (ux_pc kx) 0).2.1 = kx → (fx_step kx op ac ea).1 = (fz_instruction kz).1 ∧ ((fx_step kx op ac ea).1 = 2 → Rel (fx_step kx op ac ea).2.1 (fz_instruction kz).2) ∧ (¬ (fx_step kx op ac ea).1 = 2 → RL (vx_dn (fx_step kx op ac ea).2.1 (ux_dn (fx_step kx op ac ea).2.1 + 1)) (znext kz)) := by
    intro k2 w1 w2 w3 w4 hI hf hk
    have e : (fx_step kx op ac ea).1 = 2 ∧ (fx_step kx op ac ea).2.1 = kx := by
      rw [eS]
      unfold fx_step_10
      rw [if_pos hf]
      exact ⟨rfl, hk⟩
    rw [hI, e.1, e.2]
    exact ⟨rfl, fun _ => ⟨M, h1, fun i => by rw [w1]; exact h2 i, by rw [w2]; exact h3, by rw [w3]; exact h4, by rw [w4]; exact h5⟩, fun q => absurd rfl q⟩
  by_cases hc : (uz_ct kz) < (4096 : Int32)
  · rw [if_pos hc] at eI
    have hc4 : (uz_ct kz).toInt < 4096 := by rw [i32_lt, show (4096 : Int32).toInt = 4096 from rfl] at hc; exact hc
    have ht : ¬ fx_isThere (ux_pc kx) = 0 := by rw [there_i, Decidable.not_not, h3]; exact ⟨hc0, hc4⟩
    have hW2 : WR kx (vz_bh kz ((uz_ct kz) + (1 : Int32))) := hW
    have F := fetch_c hW2 10 op ac ea (ux_pc kx) 0 ht (by decide)
    have el : ldz (vz_bh kz ((uz_ct kz) + (1 : Int32))) (ux_pc kx) = ldz kz (uz_ct kz) := by rw [h3]; rfl
    rw [el, ← eI] at F
    rcases F with ⟨f1, f2, f3⟩ | ⟨op', ac', ea', o, f1, f2, f3, f4, f5, f6⟩
    · exact fault (vz_bh kz ((uz_ct kz) + (1 : Int32))) rfl rfl rfl rfl f3 f1 f2
    · have e1 : (uz_ct kz + 1).toInt = (uz_ct kz).toInt + 1 := i32_inc (by omega)
      have hRP : RP (uz_ct kz) 4096 (vx_pc kx (ux_pc kx + (1 : Int32))) (vz_bh kz ((uz_ct kz) + (1 : Int32))) := by
        refine ⟨M, h1, h2, h4, h5, rfl, ?_, ?_, ?_⟩
        · show ux_pc kx + 1 = uz_ct kz + 1
          rw [h3]
        · show 0 ≤ (uz_ct kz + 1).toInt
          omega
        · show (uz_ct kz + 1).toInt ≤ 4096
          omega
      have P := perf_c f4 f5 hRP f2 f3
      rw [f6]
      rw [f1] at eS
      have eS2 : fx_step kx op ac ea = fx_step_10 kx op' ac' ea' (ux_pc kx) 1 := eS
      unfold fx_step_10 at eS2
      rw [if_neg (show ¬ (1 : Int32) = 0 by decide)] at eS2
      have hz : znext kz = vz_ct (vz_dn ((fz_instruction kz).2) ((uz_dn ((fz_instruction kz).2)) + (1 : Int32))) (uz_bh (vz_dn ((fz_instruction kz).2) ((uz_dn ((fz_instruction kz).2)) + (1 : Int32)))) := rfl
      rw [f6] at hz
      rw [hz]
      obtain ⟨P1, P2⟩ := P
      generalize fx_perform (vx_pc kx (ux_pc kx + (1 : Int32))) op' ac' ea' = rx at *
      generalize fz_perform (vz_bh kz ((uz_ct kz) + (1 : Int32))) op' ac' ea' = rz at *
      obtain ⟨N, g1, g2, g3, g4, g5, g6, g7, g8⟩ := P2
      by_cases hf : rx.1 = (2 : Int32)
      · rw [if_pos hf] at eS2
        rw [eS2]
        refine ⟨P1, fun _ => ⟨N, g1, g2, ?_, g3, g4⟩, fun q => absurd hf q⟩
        show ux_pc kx = uz_ct rz.2
        rw [g5, h3]
      · rw [if_neg hf] at eS2
        rw [eS2]
        refine ⟨P1, fun q => absurd q hf, fun _ => ⟨⟨N, g1, g2, g6, g3, ?_⟩, g7, g8⟩⟩
        show ux_dn rx.2 + 1 = uz_dn rz.2 + 1
        rw [g4]
  · rw [if_neg hc] at eI
    have ht : fx_isThere (ux_pc kx) = 0 := by rw [there_i, h3]; rw [i32_lt, show (4096 : Int32).toInt = 4096 from rfl] at hc; omega
    have q := fetch_gone 10 kx op ac ea (ux_pc kx) 0 ht
    exact fault kz rfl rfl rfl rfl eI q.1 q.2
theorem zg_c : ∀ (n : Nat) (kx : kSx) (kz : kSz), RL kx kz → zgood n kz := by
  intro n
  induction n with
  | zero => intros; exact trivial
  | succ n ih =>
    intro kx kz h
    refine ⟨by rw [i32_le]; exact h.2.1, fun h2 _ => ?_⟩
    have s := step_c h 0 0 0
    exact ih _ _ (s.2.2 (fun q => h2 (by rw [← s.1]; exact q)))
theorem go_end (n : Nat) (k : kSx) (op ac ea v2 v4 v5 : Int32) (h4 : ¬ v4 = 0) (hn : 0 < n) : fx_go_45 n k op ac ea v2 v4 v5 = (v4, (k, op, ac, ea)) := by
  cases n with
  | zero => exact absurd hn (Nat.lt_irrefl _)
  | succ n =>
    rw [fx_go_45]
    by_cases h : v2 ≤ v5
    · rw [if_pos h]
    · rw [if_neg h, if_neg h4]
theorem go_c : ∀ (n : Nat) (kx : kSx) (kz : kSz) (op ac ea v2 v5 : Int32), RL kx kz → (v2.toInt - v5.toInt).toNat < n → (fx_go_45 n kx op ac ea v2 0 v5).1 = (fz_go_48 n kz v2 v5).1 ∧ Rel (fx_go_45 n kx op ac ea v2 0 v5).2.1 (fz_go_48 n kz v2 v5).2 := by
  intro n
  induction n with
  | zero => intro kx kz op ac ea v2 v5 _ h; exact absurd h (Nat.not_lt_zero _)
  | succ n ih =>
    intro kx kz op ac ea v2 v5 h hmu
    rw [fx_go_45, fz_go_48]
    by_cases hv : v2 ≤ v5
    · rw [if_pos hv, if_pos hv]; exact ⟨rfl, h.1⟩
    · rw [if_neg hv, if_neg hv, if_pos rfl]
      have mu := mu_up hv hmu
      have hn : 0 < n := by omega
      obtain ⟨s1, s2, s3⟩ := step_c h op ac ea
      rw [← s1]
      by_cases h2 : (fx_step kx op ac ea).1 = (2 : Int32)
      · rw [if_pos h2, if_pos h2, go_end n _ _ _ _ _ _ _ (by rw [h2]; decide) hn]
        exact ⟨h2, s2 h2⟩
      · rw [if_neg h2, if_neg h2]
        have r := s3 h2
        by_cases h1 : (fx_step kx op ac ea).1 = (1 : Int32)
        · rw [if_pos h1, go_end n _ _ _ _ _ _ _ (by rw [h1]; decide) hn]
          exact ⟨h1, r.1⟩
        · rw [if_neg h1]
          have h0 : (fx_step kx op ac ea).1 = (0 : Int32) := by
            have q := step_012 kx op ac ea
            rcases q with q | q | q
            · exact q
            · exact absurd q h1
            · exact absurd q h2
          rw [h0]
          exact ih _ _ _ _ _ v2 (v5 + 1) r mu
theorem zin_n (n : Int32) : (fz_in n.toInt64 (0 : Int64) (500 : Int64)) = 0 ↔ ¬ (0 ≤ n.toInt ∧ n.toInt ≤ 500) := by
  constructor
  · intro q z
    unfold fz_in at q
    rw [if_neg (by rw [Int64.lt_iff_toInt_lt, Int32.toInt_toInt64]; show ¬ n.toInt < 0; omega), if_neg (by rw [Int64.lt_iff_toInt_lt, Int32.toInt_toInt64, show (500 : Int64).toInt = 500 from rfl]; omega)] at q
    exact absurd q (by decide)
  · intro z
    by_cases q : (fz_in n.toInt64 (0 : Int64) (500 : Int64)) = 0
    · exact q
    · have := zin_c q
      rw [show (0 : Int64).toInt = 0 from rfl, show (500 : Int64).toInt = 500 from rfl] at this
      exact absurd this z
theorem rl_in {a : Int32} (h : Rel kx kz) (ha : vp_in a 4096) : RL (vx_dn (vx_pc kx a) (0 : Int32)) (vz_dn (vz_ct kz a) (0 : Int32)) ∧ RL (vx_dn (vx_ov (vx_pc kx a) (0 : Int32)) (0 : Int32)) (vz_dn (vz_ov (vz_ct kz a) (0 : Int32)) (0 : Int32)) := by
  obtain ⟨M, h1, h2, h3, h4, h5⟩ := h
  have b := vin_o ha
  refine ⟨⟨⟨M, h1, h2, rfl, h4, rfl⟩, b.1, ?_⟩, ⟨⟨M, h1, h2, rfl, rfl, rfl⟩, b.1, ?_⟩⟩
  · show a.toInt ≤ 300000
    omega
  · show a.toInt ≤ 300000
    omega
theorem sim_go {kx : kSx} {kz : kSz} (op ac ea a n f : Int32) (h : Rel kx kz) : (fx_go kx op ac ea a n f).1 = (fz_go kz a n f).1 ∧ Rel (fx_go kx op ac ea a n f).2.1 (fz_go kz a n f).2 := by
  unfold fx_go fz_go
  by_cases h1 : fx_isThere a = 0
  · rw [if_pos h1, if_pos ((there_zin a).mp h1)]; exact ⟨rfl, h⟩
  · have hz : ¬ (fz_in a.toInt64 (0 : Int64) (4095 : Int64)) = 0 := fun q => h1 ((there_zin a).mpr q)
    rw [if_neg h1, if_neg hz]
    have rl := rl_in h (vin_zin hz)
    have e := zin_n n
    by_cases h2 : n < 0
    · have h2 := h2
      rw [if_pos h2, if_pos (e.mpr (by rw [i32_lt, show (0 : Int32).toInt = 0 from rfl] at h2; omega))]; exact ⟨rfl, h⟩
    · rw [if_neg h2]
      by_cases h3 : n ≤ (500 : Int32)
      · have hg := h3
        rw [i32_lt, show (0 : Int32).toInt = 0 from rfl] at h2
        rw [i32_le, show (500 : Int32).toInt = 500 from rfl] at hg
        rw [if_pos h3, if_neg (fun q => e.mp q (by omega))]
        unfold fx_go_34 fz_go_40
        by_cases h4 : f = 0
        · rw [if_pos h4, if_pos h4]; exact go_c 501 _ _ _ _ _ _ _ rl.1 (mu_go h3)
        · rw [if_neg h4, if_neg h4]; exact go_c 501 _ _ _ _ _ _ _ rl.2 (mu_go h3)
      · have hg := h3
        rw [i32_le, show (500 : Int32).toInt = 500 from rfl] at hg
        rw [if_neg h3, if_pos (e.mpr (by omega))]; exact ⟨rfl, h⟩
theorem sim_good {kx : kSx} {kz : kSz} (a : Int32) (h : Rel kx kz) : ¬ (fz_in a.toInt64 (0 : Int64) (4095 : Int64)) = 0 → zgood 501 (vz_dn (vz_ct kz a) (0 : Int32)) ∧ zgood 501 (vz_dn (vz_ov (vz_ct kz a) (0 : Int32)) (0 : Int32)) := by
  intro hz
  have rl := rl_in h (vin_zin hz)
  exact ⟨zg_c 501 _ _ rl.1, zg_c 501 _ _ rl.2⟩
end SIM
