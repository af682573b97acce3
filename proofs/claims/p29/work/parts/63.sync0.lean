section
/-! ===== PURE, sync: the reference after a good choice; a sync that fails ===== -/
theorem zI_mono {n m : Int} {M : Mem} (h : zI n M) (hm : n ≤ m) : zI m M := by
  obtain ⟨h1, h2, h3, h4, h5, h6, h7, h8, h9, h10, h11, h12⟩ := h
  exact ⟨h1, h2, h3, h4, h5, h6, h7, h8, h9, ⟨h10.1, by omega⟩, h11, h12⟩
theorem zI_FM {n : Int} {M0 M : Mem} (h : zI n M0) (hF : FM M0 M) : zI n M := by
  unfold zI cU at *
  rw [hF 3 (by decide) (by decide) (by decide) (by decide), hF 5 (by decide) (by decide) (by decide) (by decide), hF 6 (by decide) (by decide) (by decide) (by decide), hF 8 (by decide) (by decide) (by decide) (by decide), hF 9 (by decide) (by decide) (by decide) (by decide), hF 10 (by decide) (by decide) (by decide) (by decide), hF 11 (by decide) (by decide) (by decide) (by decide), hF 12 (by decide) (by decide) (by decide) (by decide), hF 14 (by decide) (by decide) (by decide) (by decide), hF 15 (by decide) (by decide) (by decide) (by decide)]
  exact h
theorem zR_FM {d : Int32} {M0 M N : Mem} (h : zR d M0 N) (hF : FM M0 M) : zR d M N := by
  unfold zR at *
  rw [hF 0 (by decide) (by decide) (by decide) (by decide), hF 3 (by decide) (by decide) (by decide) (by decide), hF 5 (by decide) (by decide) (by decide) (by decide), hF 6 (by decide) (by decide) (by decide) (by decide), hF 7 (by decide) (by decide) (by decide) (by decide), hF 8 (by decide) (by decide) (by decide) (by decide), hF 9 (by decide) (by decide) (by decide) (by decide), hF 10 (by decide) (by decide) (by decide) (by decide), hF 11 (by decide) (by decide) (by decide) (by decide), hF 12 (by decide) (by decide) (by decide) (by decide), hF 13 (by decide) (by decide) (by decide) (by decide), hF 14 (by decide) (by decide) (by decide) (by decide), hF 15 (by decide) (by decide) (by decide) (by decide)]
  exact h
theorem r_syncF {n : Int} {M0 N0 : Mem} (h : zRI n 0 M0 N0) (hc : ∃ f : Nat, f < 4 ∧ ch M0 f) (hf : (f_X4_choosePlaces M0).1 = false) : zRI (n + 1) 0 (f_X4_sync M0).2 (f_X5_sync N0).2 ∧ qA c1E id (f_X4_sync M0).1 (f_X5_sync N0) := by
  obtain ⟨r1, r2, r3, _⟩ := r_tries1 h hc
  unfold f_X4_sync f_X5_sync
  rw [if_neg (fun q => u_count0.mp q hc)]
  simp only [zlet]
  rw [← r1, hf]
  simp only [Bool.false_eq_true, if_false]
  refine ⟨⟨zR_00 (zR_FM (zR_FN h.1 r3) r2), zI_mono (zI_FM h.2 r2) (by omega)⟩, ?_⟩
  simp [qA, c1E, m00]
end
