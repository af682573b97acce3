section
theorem u_close (M : Mem) : (∀ j, j ≠ 3 → j ≠ 15 → f_X2_close M j = M j) ∧ (∀ k, k < 48 → f_X2_close M 15 k = -1) ∧ f_X2_close M 3 1 = M 3 1 + 1 := by
  have e := u_lf15 (-1) 48 49 0 M (by decide) (by decide)
  have eD : f_X2_dropChanges M = (l_J7_fill_53178_15_5 (-1) 48 49 0 M).2 := rfl
  rw [← eD] at e
  have eC : f_X2_close M = mup (f_X2_dropChanges M) 3 1 ((f_X2_dropChanges M) 3 1 + 1) := rfl
  have z0 : ((0 : Int32).toNatClampNeg) = 0 := rfl
  have t48 : (48 : Int32).toInt = 48 := by decide
  rw [z0, t48] at e
  rw [eC, e]
  refine ⟨fun j j3 j15 => ?_, fun k hk => ?_, ?_⟩
  · unfold mup; rw [mset_ne j3, mset_ne j15]
  · unfold mup; rw [mset_ne (by decide), mset_eq, if_pos (by omega)]
  · simp [mup, mset, upd]
end
