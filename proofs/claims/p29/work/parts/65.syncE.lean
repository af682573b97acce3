section
/-! ===== PURE, sync: with nothing buffered ===== -/
theorem zI_close {n : Int} {M : Mem} (h : zI n M) (hn : n + 1 < 2 ^ 31) : zI (n + 1) (f_X2_close M) := by
  obtain ⟨c1, c2, c3⟩ := u_close M
  obtain ⟨h1, h2, h3, h4, h5, h6, h7, h8, h9, h10, h11, h12⟩ := h
  have e5 := c1 5 (by decide) (by decide)
  have e6 := c1 6 (by decide) (by decide)
  have e8 := c1 8 (by decide) (by decide)
  have e9 := c1 9 (by decide) (by decide)
  have e10 := c1 10 (by decide) (by decide)
  have e11 := c1 11 (by decide) (by decide)
  have e12 := c1 12 (by decide) (by decide)
  have e14 := c1 14 (by decide) (by decide)
  have eg : (M 3 1 + 1).toInt = (M 3 1).toInt + 1 := by
    have := z_addI (a := M 3 1) (b := 1) (by simp; omega) (by simp; omega); simpa using this
  unfold zI cU
  rw [e5, e6, e8, e9, e10, e11, e12, e14, c3, eg]
  exact ⟨h1, h2, h3, h4, h5, h6, h7, h8, h9, ⟨by omega, by omega⟩, fun k hk => by rw [c2 k hk]; decide, h12⟩
end
