section
/-- the reference's memory before loop 76 -/
def nb (N1 : Mem) : Mem := (l_X5_sync_44 49 0 (l_X5_sync_23 121 0 (mup N1 0 0 0)).2).2
theorem v_nb (N1 : Mem) : (∀ a, a ≠ 0 → a ≠ 2 → a ≠ 3 → a ≠ 13 → nb N1 a = N1 a) ∧ (∀ i, nb N1 0 i = if i = 0 then 0 else N1 0 i) ∧ (∀ j, j < 48 → nb N1 2 j = if N1 3 j = -1 then N1 2 j else N1 3 j) ∧ (∀ j, j < 48 → nb N1 3 j = -1) ∧ ∀ c, c < 120 → nb N1 13 c = 0 := by
  have e23 := v_l23 121 0 (mup N1 0 0 0) (by decide) (by decide)
  obtain ⟨i1, i2, i3⟩ := v_l44 49 0 (l_X5_sync_23 121 0 (mup N1 0 0 0)).2 (by decide) (by decide)
  have z0 : ((0 : Int32).toNatClampNeg) = 0 := rfl
  rw [z0] at e23
  unfold nb
  refine ⟨fun a a0 a2 a3 a13 => ?_, fun i => ?_, fun j hj => ?_, fun j hj => ?_, fun c hc => ?_⟩
  · rw [i1 a a2 a3, e23, mset_ne a13]; unfold mup; rw [mset_ne a0]
  · rw [i1 0 (by decide) (by decide), e23, mset_ne (by decide)]; simp [mup, mset, upd]
  · rw [i2 j, z0, if_pos (by omega), e23, mset_ne (by decide), mset_ne (by decide)]; simp [mup, mset]
  · rw [i3 j, z0, if_pos (by omega)]
  · rw [i1 13 (by decide) (by decide), e23, mset_eq, if_pos (by omega)]
theorem v_syncS {N0 : Mem} (h : (f_X5_tries N0).1 = true) : f_X5_sync N0 = zlet (l_X5_sync_208 121 0 (l_X5_sync_76 54 0 (nb (f_X5_tries N0).2)).2).2 (fun N7 => (mup N7 0 1 (N7 0 1 + 1) 0 19, mup N7 0 1 (N7 0 1 + 1))) := by
  unfold f_X5_sync nb
  simp only [zlet]
  rw [h]
  rfl
end
