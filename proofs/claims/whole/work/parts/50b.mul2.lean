section MULB
variable {c : Int32} {B : Int} {kx : kSx} {kz : kSz} {op ac ea : Int32}
def INP (P : Int) : Prop := -34359738368 ≤ P ∧ P < 34359738368
theorem absJ_int (b : BitVec 36) : (fjm_absJ (xv b)).toInt = ((xv b).toInt.natAbs : Int) := by
  unfold fjm_absJ
  have h1 := xv_lo b; have h2 := xv_hi b
  by_cases h : (0 : Int64) ≤ xv b
  · rw [if_pos h]
    rw [Int64.le_iff_toInt_le, show (0 : Int64).toInt = 0 from rfl] at h
    omega
  · rw [if_neg h, neg_int]
    rw [Int64.le_iff_toInt_le, show (0 : Int64).toInt = 0 from rfl] at h
    omega
theorem dv35 {d : Int64} (h : 0 < d.toInt) : ((34359738368 : Int64) / d).toInt = 34359738368 / d.toInt := by
  rw [Int64.toInt_div_of_ne_left _ _ (by decide +kernel), show (34359738368 : Int64).toInt = 34359738368 from by decide +kernel, Int.tdiv_eq_ediv_of_nonneg (by decide)]
theorem prod_int (a b : BitVec 36) (h : -9223372036854775808 ≤ (xv a).toInt * (xv b).toInt ∧ (xv a).toInt * (xv b).toInt < 9223372036854775808) : (xv a * xv b).toInt = (xv a).toInt * (xv b).toInt := i64_mul rfl h.1 h.2
theorem prod_c (k : kSx) (a b : BitVec 36) : ∃ t : Bool, (t = true ↔ INP ((xv a).toInt * (xv b).toInt)) ∧ fx_product k op ac ea (xv a) (xv b) = (xv (NN (xv a * xv b)), if t then k else vx_ov k (1 : Int32)) := by
  have h1 := xv_lo a; have h2 := xv_hi a; have h3 := xv_lo b; have h4 := xv_hi b
  have ab : ((xv a).toInt * (xv b).toInt).natAbs = (xv a).toInt.natAbs * (xv b).toInt.natAbs := Int.natAbs_mul _ _
  have small : ((xv a).toInt * (xv b).toInt).natAbs ≤ 34359738368 → ∃ t : Bool, (t = true ↔ INP ((xv a).toInt * (xv b).toInt)) ∧ fx_result k op ac ea (xv a * xv b) = (xv (NN (xv a * xv b)), if t then k else vx_ov k (1 : Int32)) := by
    intro hs
    have e := prod_int a b (by omega)
    rw [res_c]
    by_cases hi : INP ((xv a).toInt * (xv b).toInt)
    · rw [if_pos ((xv_fix _).mpr (by rw [e]; exact hi))]
      exact ⟨true, ⟨fun _ => hi, fun _ => rfl⟩, rfl⟩
    · rw [if_neg (fun q => hi (by have := (xv_fix _).mp q; rw [e] at this; exact this))]
      exact ⟨false, ⟨fun q => absurd q (by decide), fun q => absurd q hi⟩, rfl⟩
  unfold fx_product fx_product_34
  by_cases h0 : xv a = (0 : Int64)
  · rw [if_pos h0]
    refine small ?_
    rw [ab, h0]
    show (0 : Int).natAbs * _ ≤ _
    simp
  · rw [if_neg h0]
    have hx : 0 < (xv a).toInt.natAbs := by
      have : (xv a).toInt ≠ 0 := fun q => h0 (Int64.toInt_inj.mp (by rw [q]; rfl))
      omega
    have hd := dv35 (d := fjm_absJ (xv a)) (by rw [absJ_int]; omega)
    by_cases hc : (fjm_absJ (xv b)) ≤ ((34359738368 : Int64) / (fjm_absJ (xv a)))
    · rw [if_pos hc]
      rw [Int64.le_iff_toInt_le, hd, absJ_int, absJ_int, Int.le_ediv_iff_mul_le (by omega)] at hc
      refine small ?_
      rw [ab, Nat.mul_comm]
      exact Int.ofNat_le.mp (by rw [Int.natCast_mul]; exact hc)
    · rw [if_neg hc]
      rw [Int64.le_iff_toInt_le, hd, absJ_int, absJ_int, Int.le_ediv_iff_mul_le (by omega)] at hc
      refine ⟨false, ⟨fun q => absurd q (by decide), fun q => ?_⟩, (by rw [sgn_eq]; rfl)⟩
      exfalso
      apply hc
      rw [← Int.natCast_mul, Nat.mul_comm, ← ab]
      unfold INP at q
      omega
theorem mulz_c (a b : BitVec 36) (t : Bool) (ht : t = true ↔ INP ((xv a).toInt * (xv b).toInt)) (m1 a1 e1 : Int32) : fz_reckon_47 kz 36 m1 a1 e1 (xv a) (xv b) = fz_reckon_206 (if t then kz else vz_ov kz (1 : Int32)) m1 a1 e1 (xv a * xv b) := by
  have h1 := xv_lo a; have h2 := xv_hi a; have h3 := xv_lo b; have h4 := xv_hi b
  have sh : ((xv a * xv b) >>> ((63 : Int32).toInt64 &&& 63)).toInt = (xv a * xv b).toInt / 9223372036854775808 := by rw [l_sar _ 63 (by decide) (by decide)]; rfl
  have mh := mh_eq a b
  have wr : (xv a * xv b).toInt = ((xv a).toInt * (xv b).toInt).bmod (2 ^ 64) := Int64.toInt_mul _ _
  have key : (fjm_multiplyHigh (xv a) (xv b) = ((xv a * xv b) >>> ((63 : Int32).toInt64 &&& 63)) ∧ ¬ fz_fits (xv a * xv b) = 0) ↔ INP ((xv a).toInt * (xv b).toInt) := by
    have fe : ¬ fz_fits (xv a * xv b) = 0 ↔ (-34359738368 ≤ (xv a * xv b).toInt ∧ (xv a * xv b).toInt < 34359738368) := by
      rw [fit_c, Decidable.not_not, xv_fix]
    rw [fe, ← Int64.toInt_inj, mh, sh, wr]
    unfold INP
    generalize (xv a).toInt * (xv b).toInt = P
    rw [Int.bmod_def]
    split <;> omega
  unfold fz_reckon_47 fz_reckon_164
  rw [if_neg (show ¬ (36 : Int32) = 38 by decide), if_pos rfl]
  cases t with
  | true =>
    have k := key.mpr (ht.mp rfl)
    rw [if_pos k.1, if_neg k.2]; rfl
  | false =>
    have k : ¬ _ := fun q => absurd (ht.mpr (key.mp q)) (by decide)
    by_cases c1 : fjm_multiplyHigh (xv a) (xv b) = ((xv a * xv b) >>> ((63 : Int32).toInt64 &&& 63))
    · rw [if_pos c1]
      by_cases c2 : fz_fits (xv a * xv b) = 0
      · rw [if_pos c2]; rfl
      · exact absurd ⟨c1, c2⟩ k
    · rw [if_neg c1]; rfl
theorem mul_c (hE : EA ea) (h : RP c B kx kz) (hf : (op &&& (508 : Int32)) = 144) : SM c B (fx_calculate kx op ac ea) (fz_reckon kz 36 (op &&& (3 : Int32)) ac ea) := by
  unfold fx_calculate fz_reckon
  refine gate hE h ?_
  obtain ⟨b1, b2, e1, e2, e3⟩ := reck15 (op := op) (ac := ac) hE h 36
  rw [e3, e1, e2]
  unfold fx_family
  rw [if_neg (show ¬ (op &&& (508 : Int32)) = 184 by rw [hf]; decide), if_neg (show ¬ (op &&& (508 : Int32)) = 188 by rw [hf]; decide)]
  obtain ⟨t, ht, ep⟩ := prod_c (op := op) (ac := ac) (ea := ea) kx b1 b2
  rw [ep, mulz_c b1 b2 t ht]
  refine r206_c ?_ _
  cases t with
  | true => exact h
  | false => exact h.ov 1
end MULB
