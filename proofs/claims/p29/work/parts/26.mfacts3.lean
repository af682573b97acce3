theorem sp_copyBothE {q : Int32 × Mem} {a b c : Int32} {N : Mem} (e : q = f_X5_copyBoth a b c N) (h : PlM N) : PlM q.2 := by
  rw [e]
  unfold f_X5_copyBoth
  simp only [zlet]
  exact sp_copy (sp_copy h)
