/-! ===== THE LAW: both memories at the start ===== -/
section
theorem r_start {M N : Mem} (h : zX0 M) (h' : zM0 N) : zRI (1 + ((0 : Nat) : Int)) 0 M N := by
  obtain ⟨a15, a10, a11, a12, a13, a14, a5, a6, a7, a8, a9, a3, a0⟩ := h
  obtain ⟨b3, b2, b4, b5, b7, b6, b1, b8, b9, b10, b11, b01, b02⟩ := h'
  refine ⟨⟨?_, ?_, ?_, ?_, ?_, ?_, ?_, ?_, ?_, ?_, ?_, ?_, ?_⟩, ⟨?_, ?_, ?_, ?_, ?_, ?_, ⟨?_, ?_, ?_⟩, ?_, ?_, ?_, ?_, ?_⟩⟩
  · intro k hk; rw [a15 k hk, b3 k hk]
  · intro k hk; rw [a10 k hk, b2 k]
  · intro k hk; rw [a11 k hk, b4 k hk]
  · intro k hk; rw [a12 k hk, b5 k hk]
  · intro k _; rw [a13 k, b7 k]
  · intro k _; rw [a14 k, b6 k]
  · intro k hk; rw [a5 k hk, b1 k hk]
  · intro k _; rw [a6 k, b8 k]
  · intro k s _ _; rw [a7, b9]
  · intro k _; rw [a8 k, b10 k]
  · intro k _; rw [a9 k, b11 k]
  · rw [a3, b01]
  · rw [a0, b02]; decide
  · intro k hk; exact ⟨Or.inl (a11 k hk), Or.inl (a12 k hk)⟩
  · intro c _; exact Or.inl (a6 c)
  · intro k l hk hl
    exact ⟨fun _ ne => absurd (a11 k hk) ne, fun _ ne => absurd (a12 k hk) ne, fun _ => a11 k hk⟩
  · intro k hk ne; exact absurd (a12 k hk) ne
  · intro f b hf hb ne; exact absurd (a11 _ (by omega)) ne
  · intro f hf ne; exact absurd (a11 _ (by omega)) ne
  · intro k _ _; exact a14 k
  · intro k hk ne; exact absurd (a11 _ (by omega)) ne
  · intro f hf ne; exact absurd (a11 _ (by omega)) ne
  · intro m _; exact Or.inl (a8 _)
  · intro k _; rw [a9 k]; decide
  · rw [a3]; decide
  · intro k hk; rw [a15 k hk]; decide
  · intro k hk; exact Or.inl (a5 k hk)
/-- the addresses of the law's world stay apart, whatever it holds -/
theorem zD_all {gX gM : ZG} {A : Nat → Prop} {M0 N0 : Mem} {o : Nat} {cL : ClassId} {v0 : Int64} (h : va_D A ((zws gX M0 ++ zws gM N0) ++ [zlo o cL v0])) (M N : Mem) (v : Int64) : va_D A ((zws gX M ++ [zlo o cL v]) ++ zws gM N) := by
  have hXM := zD_l h
  have hX := zD_l hXM
  have hM := zD_r hXM
  have hXo : va_D A (zws gX M0 ++ [zlo o cL v0]) := va_D.app hX (zD_r h) (fun i j p q hp hq e => zD_x h i j p q (by rw [List.getElem?_append_left (List.getElem?_eq_some_iff.mp hp).1]; exact hp) hq e)
  have hMo : va_D A (zws gM N0 ++ [zlo o cL v0]) := va_D.app hM (zD_r h) (fun i j p q hp hq e => zD_x h ((zws gX M0).length + i) j p q (by rw [List.getElem?_append_right (by omega)]; simpa using hp) hq e)
  refine va_D.app (zD_lo hXo) (zD_any hM) (fun i j p q hp hq e => ?_)
  obtain ⟨y, hy, rfl⟩ := zws_inv hq
  by_cases hi : i < (zws gX M).length
  · rw [List.getElem?_append_left hi] at hp
    obtain ⟨x, hx, rfl⟩ := zws_inv hp
    exact zD_x hXM i j _ _ (zws_at (M := M0) hx) (zws_at (M := N0) hy) e
  · rw [List.getElem?_append_right (by omega)] at hp
    have hk : i - (zws gX M).length < 1 := (List.getElem?_eq_some_iff.mp hp).1
    have e0 : i - (zws gX M).length = 0 := by omega
    rw [e0] at hp
    cases hp
    exact zD_x hMo j 0 _ (zlo o cL v0) (zws_at (M := N0) hy) rfl e.symm
end
