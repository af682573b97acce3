/-! ===== PURE: class and reference answer alike; the small loops unrolled ===== -/
section
theorem u_canFetch (p : Int32) (M : Mem) : f_X4_canFetch p M = (f_X0_isGood (f_X3_placeOf p 0 M) 0 M || f_X0_isGood (f_X3_placeOf p 0 M) 1 M || f_X0_isGood (f_X3_placeOf p 1 M) 0 M || f_X0_isGood (f_X3_placeOf p 1 M) 1 M) := by
  simp only [f_X4_canFetch, zlet, l_X4_canFetch_2, b_X4_canFetch_2, l_X4_canFetch_20, b_X4_canFetch_20, Int32.reduceLE, if_false, if_true, ite_false, ite_true, Int32.reduceAdd]
  cases f_X0_isGood (f_X3_placeOf p 0 M) 0 M <;> cases f_X0_isGood (f_X3_placeOf p 0 M) 1 M <;> cases f_X0_isGood (f_X3_placeOf p 1 M) 0 M <;> cases f_X0_isGood (f_X3_placeOf p 1 M) 1 M <;> simp
theorem u_isReadable (p : Int32) (M : Mem) : f_X5_isReadable p M = (f_X5_isGood (M 4 p.toNatClampNeg) 0 M || f_X5_isGood (M 4 p.toNatClampNeg) 1 M || f_X5_isGood (M 5 p.toNatClampNeg) 0 M || f_X5_isGood (M 5 p.toNatClampNeg) 1 M) := by
  unfold f_X5_isReadable
  repeat' split
  all_goals simp_all
/-- the numbers of a cell's side -/
theorem y_ix120 {s p : Int32} (hs : 0 ≤ s.toInt ∧ s.toInt < 2) (hp : 0 ≤ p.toInt ∧ p.toInt < 120) : (s * 120 + p).toNatClampNeg = 120 * s.toNatClampNeg + p.toNatClampNeg := by
  have e1 : (s * 120).toInt = s.toInt * (120 : Int32).toInt := z_mulI (by simp; omega) (by simp; omega)
  simp only [Int32.reduceToInt] at e1
  have e2 : (s * 120 + p).toInt = (s * 120).toInt + p.toInt := z_addI (by omega) (by omega)
  simp only [Int32.toNatClampNeg, e2, e1]; omega
theorem y_2 {p s : Int32} (hs : 0 ≤ s.toInt ∧ s.toInt < 2) (hp : 0 ≤ p.toInt ∧ p.toInt < 120) : (2 * p + s).toNatClampNeg = 2 * p.toNatClampNeg + s.toNatClampNeg := by
  simp only [Int32.toNatClampNeg, z2 hp hs]; omega
theorem y_12 {a b : Int32} (ha : 0 ≤ a.toInt ∧ a.toInt < 4) (hb : 0 ≤ b.toInt ∧ b.toInt ≤ 12) : (12 * a + b).toNatClampNeg = 12 * a.toNatClampNeg + b.toNatClampNeg := by
  simp only [Int32.toNatClampNeg, z12 ha hb]; omega
theorem y_48 {a : Int32} (ha : 0 ≤ a.toInt ∧ a.toInt < 4) : (48 + a).toNatClampNeg = 48 + a.toNatClampNeg := by
  simp only [Int32.toNatClampNeg, z48 ha]; omega
theorem y_40 {a b : Int32} (ha : 0 ≤ a.toInt ∧ a.toInt < 3) (hb : 0 ≤ b.toInt ∧ b.toInt ≤ 40) : (40 * a + b).toNatClampNeg = 40 * a.toNatClampNeg + b.toNatClampNeg := by
  simp only [Int32.toNatClampNeg, z40 ha hb]; omega
theorem y_d40 {a : Int32} (ha : 0 ≤ a.toInt) : (a / 40).toNatClampNeg = a.toNatClampNeg / 40 := by
  simp only [Int32.toNatClampNeg, z_d40 ha]; omega
theorem y_pt (a b : Int32) : f_X4_blockPointer a b = 12 * a + b := by unfold f_X4_blockPointer; rw [Int32.mul_comm]
theorem y_pl (a b : Int32) : f_X4_placeNumber a b = 40 * a + b := by unfold f_X4_placeNumber; rw [Int32.mul_comm]
end
