section SHIFT
variable {c : Int32} {kx : kSx} {kz : kSz} {op ac ea : Int32}
theorem shift_c (hA : AC ac) (hE : EA ea) (h : RP c 4096 kx kz) (ho : op = 160 ∨ op = 161 ∨ op = 162 ∨ op = 163) : SM c 300000 (fx_shiftOrFindFirstOne kx op ac ea) (fz_shift kz (op - (160 : Int32)) ac ea) := by
  sorry
end SHIFT
