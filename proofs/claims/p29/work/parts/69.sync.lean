section
/-! ===== PURE: sync, whole ===== -/
theorem r_sync {n : Int} {M0 N0 : Mem} (h : zRI n 0 M0 N0) (hn : n + 1 < 2 ^ 31) : zRI (n + 1) 0 (f_X4_sync M0).2 (f_X5_sync N0).2 ∧ qA c1E id (f_X4_sync M0).1 (f_X5_sync N0) := by
  by_cases hc : ∃ f : Nat, f < 4 ∧ ch M0 f
  · cases ht : (f_X4_choosePlaces M0).1 with
    | false => exact r_syncF h hc ht
    | true => exact r_sync2 h hn hc ht
  · exact r_sync0 h hn hc
end
