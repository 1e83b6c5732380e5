/-! ===== Row ===== -/
section
variable {d : Nat} {h : PzH} {Q : Option Value → PzH → Prop} {r : Nat}
theorem c_size (hC : pz_C h r = 6) : pz_M (d + 1) mX6_size [.ref r] h Q ↔ Q (some (.int (pz_I h r 2))) h := by
  simp only [enX6_size, uX6_size_0, uX6_size_0o, uX6_size_0f, uX6_size_1, uX6_size_4, hC, true_and]
theorem c_fits {n : Int32} (hC : pz_C h r = 6) : pz_M (d + 1) mX6_fits [.ref r, .int n] h Q ↔ Q (some (.int (if n < 0 then 0 else if pz_I h r 0 - pz_I h r 2 < n then 0 else 1))) h := by
  simp only [enX6_fits, uX6_fits_0, uX6_fits_1, uX6_fits_4, uX6_fits_5, uX6_fits_5o, uX6_fits_5f, uX6_fits_6, uX6_fits_9, uX6_fits_9o, uX6_fits_9f, uX6_fits_10, uX6_fits_13, uX6_fits_14, uX6_fits_17, uX6_fits_18, uX6_fits_21, uX6_fits_22, hC, true_and]
  repeat' split
  all_goals simp
theorem c_cut {n : Int32} (hC : pz_C h r = 6) : pz_M (d + 1) mX6_cut [.ref r, .int n] h Q ↔ Q none (if n < 0 then h else if pz_I h r 2 < n then h else pz_sI h r 2 n) := by
  simp only [enX6_cut, uX6_cut_0, uX6_cut_1, uX6_cut_4, uX6_cut_5, uX6_cut_5o, uX6_cut_5f, uX6_cut_6, uX6_cut_9, uX6_cut_12, uX6_cut_12o, uX6_cut_12f, uX6_cut_13, uX6_cut_14, uX6_cut_17, hC, true_and]
  repeat' split
  all_goals simp
end
