/-! ===== by program (wip/p29/refuses.py): the law's refused calls ===== -/
section
theorem wx_writes (q : ZQ) (hq : q.1.stackTraces = false) {a b c : Int32} {P : Mem} (h : ¬ (((0 ≤ a.toInt ∧ a.toInt < 4) ∧ 0 ≤ b.toInt ∧ b.toInt < 12) ∧ 1 ≤ c.toInt ∧ c.toInt ≤ 9999)) : Zd (zgX q) mL_writes hL_writes [.inr 0, .inl a, .inl b, .inl c] P (-9999002) P := by
  have e := w_writes q hq a b c P
  rw [x_write h] at e
  rw [← eK_IAE]
  exact e
theorem wx_punches (q : ZQ) (hq : q.1.stackTraces = false) {a b c : Int32} {P : Mem} (h : ¬ (((0 ≤ a.toInt ∧ a.toInt < 4) ∧ 0 ≤ b.toInt ∧ b.toInt < 12) ∧ b.toInt ≤ c.toInt ∧ c.toInt < 12)) : Zd (zgX q) mL_punches hL_punches [.inr 0, .inl a, .inl b, .inl c] P (-9999002) P := by
  have e := w_punches q hq a b c P
  rw [x_punch h] at e
  rw [← eK_IAE]
  exact e
theorem wx_doubles (q : ZQ) (hq : q.1.stackTraces = false) {a b : Int32} {P : Mem} (h : ¬ ((0 ≤ a.toInt ∧ a.toInt < 4) ∧ 1 ≤ b.toInt ∧ b.toInt ≤ 2)) : Zd (zgX q) mL_doubles hL_doubles [.inr 0, .inl a, .inl b] P (-9999002) P := by
  have e := w_doubles q hq a b P
  rw [x_setCopies h] at e
  rw [← eK_IAE]
  exact e
theorem wx_leaves (q : ZQ) (hq : q.1.stackTraces = false) {a b : Int32} {P : Mem} (h : ¬ ((0 ≤ a.toInt ∧ a.toInt < 3) ∧ 0 ≤ b.toInt ∧ b.toInt < 2)) : Zd (zgX q) mL_leaves hL_leaves [.inr 0, .inl a, .inl b] P (-9999002) P := by
  have e := w_leaves q hq a b P
  rw [x_offline h] at e
  rw [← eK_IAE]
  exact e
theorem wx_returns (q : ZQ) (hq : q.1.stackTraces = false) {a b : Int32} {P : Mem} (h : ¬ ((0 ≤ a.toInt ∧ a.toInt < 3) ∧ 0 ≤ b.toInt ∧ b.toInt < 2)) : Zd (zgX q) mL_returns hL_returns [.inr 0, .inl a, .inl b] P (-9999002) P := by
  have e := w_returns q hq a b P
  rw [x_online h] at e
  rw [← eK_IAE]
  exact e
theorem wx_spoils (q : ZQ) (hq : q.1.stackTraces = false) {a b c : Int32} {P : Mem} (h : ¬ (((0 ≤ a.toInt ∧ a.toInt < 3) ∧ 0 ≤ b.toInt ∧ b.toInt < 2) ∧ 0 ≤ c.toInt ∧ c.toInt < 40)) : Zd (zgX q) mL_spoils hL_spoils [.inr 0, .inl a, .inl b, .inl c] P (-9999002) P := by
  have e := w_spoils q hq a b c P
  rw [x_spoil h] at e
  rw [← eK_IAE]
  exact e
theorem wx_spoilt (q : ZQ) (hq : q.1.stackTraces = false) {a b c : Int32} {P : Mem} (h : ¬ (((0 ≤ a.toInt ∧ a.toInt < 3) ∧ 0 ≤ b.toInt ∧ b.toInt < 2) ∧ 0 ≤ c.toInt ∧ c.toInt < 40)) : Zd (zgX q) mL_spoilt hL_spoilt [.inr 0, .inl a, .inl b, .inl c] P (-9999002) P := by
  have e := w_spoilt q hq a b c P
  rw [x_isSpoilt h] at e
  rw [← eK_IAE]
  exact e
theorem wx_isFree (q : ZQ) (hq : q.1.stackTraces = false) {a b : Int32} {P : Mem} (h : ¬ ((0 ≤ a.toInt ∧ a.toInt < 3) ∧ 0 ≤ b.toInt ∧ b.toInt < 40)) : Zd (zgX q) mL_isFree hL_isFree [.inr 0, .inl a, .inl b] P (-9999002) P := by
  have e := w_isFree q hq a b P
  rw [x_isFree h] at e
  rw [← eK_IAE]
  exact e
theorem wx_free (q : ZQ) (hq : q.1.stackTraces = false) {a : Int32} {P : Mem} (h : ¬ (0 ≤ a.toInt ∧ a.toInt < 3)) : Zd (zgX q) mL_free hL_free [.inr 0, .inl a] P (-9999002) P := by
  have e := w_free q hq a P
  rw [x_free h] at e
  rw [← eK_IAE]
  exact e
theorem wx_nodePlace (q : ZQ) (hq : q.1.stackTraces = false) {a b : Int32} {P : Mem} (h : ¬ (0 ≤ a.toInt ∧ a.toInt < 4)) : Zd (zgX q) mL_nodePlace hL_nodePlace [.inr 0, .inl a, .inl b] P (-9999002) P := by
  have e := w_nodePlace q hq a b P
  rw [x_nodePlace h] at e
  rw [← eK_IAE]
  exact e
theorem wx_sum (q : ZQ) (hq : q.1.stackTraces = false) {a : Int32} {P : Mem} (h : ¬ (0 ≤ a.toInt ∧ a.toInt < 4)) : Zd (zgX q) mL_sum hL_sum [.inr 0, .inl a] P (-9999002) P := by
  have e := w_sum q hq a P
  rw [x_checksum h] at e
  rw [← eK_IAE]
  exact e
theorem wx_place (q : ZQ) (hq : q.1.stackTraces = false) {a b c : Int32} {P : Mem} (h : ¬ ((0 ≤ a.toInt ∧ a.toInt < 4) ∧ 0 ≤ b.toInt ∧ b.toInt < 12)) : Zd (zgX q) mL_place hL_place [.inr 0, .inl a, .inl b, .inl c] P (-9999002) P := by
  have e := w_place q hq a b c P
  rw [x_place h] at e
  rw [← eK_IAE]
  exact e
theorem wx_reads (q : ZQ) (hq : q.1.stackTraces = false) {a b : Int32} {P : Mem} (h : ¬ ((0 ≤ a.toInt ∧ a.toInt < 4) ∧ 0 ≤ b.toInt ∧ b.toInt < 12)) : Zd (zgX q) mL_reads hL_reads [.inr 0, .inl a, .inl b] P (-9999002) P := by
  have e := w_reads q hq a b P
  rw [x_read h] at e
  rw [← eK_IAE]
  exact e
theorem wx_data (q : ZQ) (hq : q.1.stackTraces = false) {a b : Int32} {P : Mem} (h : ¬ ((0 ≤ a.toInt ∧ a.toInt < 4) ∧ 0 ≤ b.toInt ∧ b.toInt < 12)) : Zd (zgX q) mL_data hL_data [.inr 0, .inl a, .inl b] P (-9999002) P := by
  have e := w_data q hq a b P
  rw [x_nextData h] at e
  rw [← eK_IAE]
  exact e
theorem wx_hole (q : ZQ) (hq : q.1.stackTraces = false) {a b : Int32} {P : Mem} (h : ¬ ((0 ≤ a.toInt ∧ a.toInt < 4) ∧ 0 ≤ b.toInt ∧ b.toInt < 12)) : Zd (zgX q) mL_hole hL_hole [.inr 0, .inl a, .inl b] P (-9999002) P := by
  have e := w_hole q hq a b P
  rw [x_nextHole h] at e
  rw [← eK_IAE]
  exact e
theorem wx_places (q : ZQ) (hq : q.1.stackTraces = false) {a b : Int32} {P : Mem} (h : ¬ ((0 ≤ a.toInt ∧ a.toInt < 4) ∧ 0 ≤ b.toInt ∧ b.toInt < 12)) : Zd (zgX q) mL_places hL_places [.inr 0, .inl a, .inl b] P (-9999002) P := by
  have e := w_places q hq a b P
  rw [x_places h] at e
  rw [← eK_IAE]
  exact e
theorem wx_birth (q : ZQ) (hq : q.1.stackTraces = false) {a b : Int32} {P : Mem} (h : ¬ ((0 ≤ a.toInt ∧ a.toInt < 4) ∧ 0 ≤ b.toInt ∧ b.toInt < 12)) : Zd (zgX q) mL_birth hL_birth [.inr 0, .inl a, .inl b] P (-9999002) P := by
  have e := w_birth q hq a b P
  rw [x_birth h] at e
  rw [← eK_IAE]
  exact e
theorem wn_place (q : ZQ) (hq : q.1.stackTraces = false) {a b c : Int32} {P : Mem} (h : ((0 ≤ a.toInt ∧ a.toInt < 4) ∧ 0 ≤ b.toInt ∧ b.toInt < 12)) (hz : c.toInt ≠ 0 ∧ c.toInt ≠ 1) : Zd (zgX q) mL_place hL_place [.inr 0, .inl a, .inl b, .inl c] P (-9999004) P := by
  have e := w_place q hq a b c P
  rw [x_place2 h hz] at e
  rw [← eK_NSE]
  exact e
theorem wn_nodePlace (q : ZQ) (hq : q.1.stackTraces = false) {a b : Int32} {P : Mem} (h : (0 ≤ a.toInt ∧ a.toInt < 4)) (hz : b.toInt ≠ 0 ∧ b.toInt ≠ 1) : Zd (zgX q) mL_nodePlace hL_nodePlace [.inr 0, .inl a, .inl b] P (-9999004) P := by
  have e := w_nodePlace q hq a b P
  rw [x_nodePlace2 h hz] at e
  rw [← eK_NSE]
  exact e
theorem wn_rootPlace (q : ZQ) (hq : q.1.stackTraces = false) {a : Int32} {P : Mem} (hz : a.toInt ≠ 0 ∧ a.toInt ≠ 1) : Zd (zgX q) mL_rootPlace hL_rootPlace [.inr 0, .inl a] P (-9999004) P := by
  have e := w_rootPlace q hq a P
  rw [x_rootPlace2 hz] at e
  rw [← eK_NSE]
  exact e
theorem ws_spoils (q : ZQ) (hq : q.1.stackTraces = false) {m s c : Nat} {P : Mem} (hm : m < 3) (hs : s < 2) (hc : c < 40) (h : P 6 (40 * m + c) = 0) : Zd (zgX q) mL_spoils hL_spoils [.inr 0, .inl (nI m), .inl (nI s), .inl (nI c)] P (-9999003) P := by
  have e := w_spoils q hq (nI m) (nI s) (nI c) P
  rw [x_spoilF hm hs hc h] at e
  rw [← eK_ISE]
  exact e
theorem ws_leaves (q : ZQ) (hq : q.1.stackTraces = false) {m s : Nat} {P : Mem} (hm : m < 3) (hs : s < 2) (h : ¬ (P 8 (2 * m) = 0 ∧ P 8 (2 * m + 1) = 0)) : Zd (zgX q) mL_leaves hL_leaves [.inr 0, .inl (nI m), .inl (nI s)] P (-9999003) P := by
  have e := w_leaves q hq (nI m) (nI s) P
  rw [x_offlineS hm hs h] at e
  rw [← eK_ISE]
  exact e
theorem ws_returns (q : ZQ) (hq : q.1.stackTraces = false) {m s : Nat} {P : Mem} (hm : m < 3) (hs : s < 2) (h : P 8 (2 * m + s) = 0) : Zd (zgX q) mL_returns hL_returns [.inr 0, .inl (nI m), .inl (nI s)] P (-9999003) P := by
  have e := w_returns q hq (nI m) (nI s) P
  rw [x_onlineS hm hs h] at e
  rw [← eK_ISE]
  exact e
theorem ws_isFree (q : ZQ) (hq : q.1.stackTraces = false) {m c : Nat} {P : Mem} (hm : m < 3) (hc : c < 40) : Zd (zgX q) mL_isFree hL_isFree [.inr 0, .inl (nI m), .inl (nI c)] P (bI (decide (P 6 (40 * m + c) = 0))) P := by
  have e := w_isFree q hq (nI m) (nI c) P
  rw [y_isFree hm hc] at e
  exact e
theorem ws_spoilt (q : ZQ) (hq : q.1.stackTraces = false) {m s c : Nat} {P : Mem} (hm : m < 3) (hs : s < 2) (hc : c < 40) : Zd (zgX q) mL_spoilt hL_spoilt [.inr 0, .inl (nI m), .inl (nI s), .inl (nI c)] P (if P 8 (2 * m + s) = 0 then bI (f_X0_hasSpoilt (nI (40 * m + c)) (nI s) P) else -9999003) P := by
  have e := w_spoilt q hq (nI m) (nI s) (nI c) P
  rw [y_isSpoilt hm hs hc] at e
  by_cases h : P 8 (2 * m + s) = 0
  · rw [if_pos h] at e ⊢; exact e
  · rw [if_neg h] at e ⊢; rw [← eK_ISE]; exact e
theorem bI_ge (b : Bool) : ¬ (bI b < 0) := by cases b <;> decide
theorem rf_649 (q : ZQ) (hq : q.1.stackTraces = false) (X : Nat) (hX : X < 10000) (P : Mem) {ce sl : Nat} (hc : ce + 0 ≤ 60 ∧ sl + 0 ≤ 360) : Zg (zgX q) mL_refuses 60 360 ce sl (.inl (some 1), P) 649 [some (.inr 0), some (.inl (nI X)), none, none, none, none, none, none] [] P := by
  refine zg_iconst (v := nI 1) dL_refuses_649 (by decide) ?_
  refine zg_goto (tgt := 654) dL_refuses_650 rfl ?_
  exact zg_iret dL_refuses_654 rfl rfl ⟨by omega, by omega⟩ rfl
theorem rf_622 (q : ZQ) (hq : q.1.stackTraces = false) (X : Nat) (hX : X < 10000) (P : Mem) {ce sl : Nat} (hc : ce + 2 ≤ 60 ∧ sl + 12 ≤ 360) : Zg (zgX q) mL_refuses 60 360 ce sl (.inl (some 1), P) 622 [some (.inr 0), some (.inl (nI X)), none, none, none, none, none, none] [] P := by
  by_cases h : P 8 (2 * (X % 3) + 1) = 0
  · refine zg_aload_n (x := 0) dL_refuses_622 rfl ?_
    refine zg_iload_n (x := nI X) dL_refuses_623 rfl ?_
    refine zg_iconst (v := nI 3) dL_refuses_624 (by decide) ?_
    refine zg_iremN dL_refuses_625 (by omega) (by omega) (by omega) ?_
    refine zg_iconst (v := nI 1) dL_refuses_626 (by decide) ?_
    refine zg_iconst (v := nI 0) dL_refuses_627 (by decide) ?_
    refine zg_cW (As := [.inr 0, .inl (nI (X % 3)), .inl (nI 1), .inl (nI 0)]) (S := []) (k := (if P 8 (2 * (X % 3) + 1) = 0 then bI (f_X0_hasSpoilt (nI (40 * (X % 3) + 0)) (nI 1) P) else -9999003)) (N := P) dL_refuses_628 (ws_spoilt q hq (by omega) (by decide) (by decide)) lk_spoilt.1 lk_spoilt.2 zi_L_spoilt rfl ⟨by decide, by decide⟩ ⟨by omega, by omega⟩ rfl (by decide) ?_
    refine zg_st (pc' := 631) (L' := [some (.inr 0), some (.inl (nI X)), none, none, none, none, none, none]) (S' := [.inl (if P 8 (2 * (X % 3) + 1) = 0 then bI (f_X0_hasSpoilt (nI (40 * (X % 3) + 0)) (nI 1) P) else -9999003)]) (M' := P) rfl rfl rfl rfl ?_
    refine zg_ldc (v := (-9999003)) dL_refuses_631 (zm2 115 (by decide +kernel) rfl) ?_
    refine zg_jf2 (tgt := 649) dL_refuses_633 rfl (fun z => absurd (show (if P 8 (2 * (X % 3) + 1) = 0 then bI (f_X0_hasSpoilt (nI (40 * (X % 3) + 0)) (nI 1) P) else -9999003) = -9999003 from z) (by rw [if_pos h]; cases f_X0_hasSpoilt (nI (40 * (X % 3) + 0)) (nI 1) P <;> decide)) ?_
    refine zg_aload_n (x := 0) dL_refuses_636 rfl ?_
    refine zg_iload_n (x := nI X) dL_refuses_637 rfl ?_
    refine zg_iconst (v := nI 3) dL_refuses_638 (by decide) ?_
    refine zg_iremN dL_refuses_639 (by omega) (by omega) (by omega) ?_
    refine zg_iconst (v := nI 1) dL_refuses_640 (by decide) ?_
    refine zg_cW (As := [.inr 0, .inl (nI (X % 3)), .inl (nI 1)]) (S := []) (k := (-9999003)) (N := P) dL_refuses_641 (ws_returns q hq (by omega) (by decide) h) lk_returns.1 lk_returns.2 zi_L_returns rfl ⟨by decide, by decide⟩ ⟨by omega, by omega⟩ rfl (by decide) ?_
    refine zg_st (pc' := 644) (L' := [some (.inr 0), some (.inl (nI X)), none, none, none, none, none, none]) (S' := [.inl (-9999003)]) (M' := P) rfl rfl rfl rfl ?_
    refine zg_ldc (v := (-9999003)) dL_refuses_644 (zm2 115 (by decide +kernel) rfl) ?_
    refine zg_jf2 (tgt := 653) dL_refuses_646 rfl (fun z => z rfl) ?_
    exact rf_649 q hq X hX P ⟨by omega, by omega⟩
  · refine zg_aload_n (x := 0) dL_refuses_622 rfl ?_
    refine zg_iload_n (x := nI X) dL_refuses_623 rfl ?_
    refine zg_iconst (v := nI 3) dL_refuses_624 (by decide) ?_
    refine zg_iremN dL_refuses_625 (by omega) (by omega) (by omega) ?_
    refine zg_iconst (v := nI 1) dL_refuses_626 (by decide) ?_
    refine zg_iconst (v := nI 0) dL_refuses_627 (by decide) ?_
    refine zg_cW (As := [.inr 0, .inl (nI (X % 3)), .inl (nI 1), .inl (nI 0)]) (S := []) (k := (if P 8 (2 * (X % 3) + 1) = 0 then bI (f_X0_hasSpoilt (nI (40 * (X % 3) + 0)) (nI 1) P) else -9999003)) (N := P) dL_refuses_628 (ws_spoilt q hq (by omega) (by decide) (by decide)) lk_spoilt.1 lk_spoilt.2 zi_L_spoilt rfl ⟨by decide, by decide⟩ ⟨by omega, by omega⟩ rfl (by decide) ?_
    refine zg_st (pc' := 631) (L' := [some (.inr 0), some (.inl (nI X)), none, none, none, none, none, none]) (S' := [.inl (if P 8 (2 * (X % 3) + 1) = 0 then bI (f_X0_hasSpoilt (nI (40 * (X % 3) + 0)) (nI 1) P) else -9999003)]) (M' := P) rfl rfl rfl rfl ?_
    refine zg_ldc (v := (-9999003)) dL_refuses_631 (zm2 115 (by decide +kernel) rfl) ?_
    refine zg_jt2 (tgt := 649) dL_refuses_633 rfl (show (if P 8 (2 * (X % 3) + 1) = 0 then bI (f_X0_hasSpoilt (nI (40 * (X % 3) + 0)) (nI 1) P) else -9999003) = -9999003 by rw [if_neg h]) ?_
    exact rf_649 q hq X hX P ⟨by omega, by omega⟩
theorem rf_596 (q : ZQ) (hq : q.1.stackTraces = false) (X : Nat) (hX : X < 10000) (P : Mem) {ce sl : Nat} (hc : ce + 4 ≤ 60 ∧ sl + 24 ≤ 360) (h : ¬ (P 8 (2 * (X % 3)) = 0 ∧ P 8 (2 * (X % 3) + 1) = 0)) : Zg (zgX q) mL_refuses 60 360 ce sl (.inl (some 1), P) 596 [some (.inr 0), some (.inl (nI X)), none, none, none, none, none, none] [] P := by
  refine zg_aload_n (x := 0) dL_refuses_596 rfl ?_
  refine zg_iload_n (x := nI X) dL_refuses_597 rfl ?_
  refine zg_iconst (v := nI 3) dL_refuses_598 (by decide) ?_
  refine zg_iremN dL_refuses_599 (by omega) (by omega) (by omega) ?_
  refine zg_iconst (v := nI 0) dL_refuses_600 (by decide) ?_
  refine zg_cW (As := [.inr 0, .inl (nI (X % 3)), .inl (nI 0)]) (S := []) (k := (-9999003)) (N := P) dL_refuses_601 (ws_leaves q hq (by omega) (by decide) h) lk_leaves.1 lk_leaves.2 zi_L_leaves rfl ⟨by decide, by decide⟩ ⟨by omega, by omega⟩ rfl (by decide) ?_
  refine zg_st (pc' := 604) (L' := [some (.inr 0), some (.inl (nI X)), none, none, none, none, none, none]) (S' := [.inl (-9999003)]) (M' := P) rfl rfl rfl rfl ?_
  refine zg_ldc (v := (-9999003)) dL_refuses_604 (zm2 115 (by decide +kernel) rfl) ?_
  refine zg_jf2 (tgt := 653) dL_refuses_606 rfl (fun z => z rfl) ?_
  refine zg_aload_n (x := 0) dL_refuses_609 rfl ?_
  refine zg_iload_n (x := nI X) dL_refuses_610 rfl ?_
  refine zg_iconst (v := nI 3) dL_refuses_611 (by decide) ?_
  refine zg_iremN dL_refuses_612 (by omega) (by omega) (by omega) ?_
  refine zg_iconst (v := nI 1) dL_refuses_613 (by decide) ?_
  refine zg_cW (As := [.inr 0, .inl (nI (X % 3)), .inl (nI 1)]) (S := []) (k := (-9999003)) (N := P) dL_refuses_614 (ws_leaves q hq (by omega) (by decide) h) lk_leaves.1 lk_leaves.2 zi_L_leaves rfl ⟨by decide, by decide⟩ ⟨by omega, by omega⟩ rfl (by decide) ?_
  refine zg_st (pc' := 617) (L' := [some (.inr 0), some (.inl (nI X)), none, none, none, none, none, none]) (S' := [.inl (-9999003)]) (M' := P) rfl rfl rfl rfl ?_
  refine zg_ldc (v := (-9999003)) dL_refuses_617 (zm2 115 (by decide +kernel) rfl) ?_
  refine zg_jf2 (tgt := 653) dL_refuses_619 rfl (fun z => z rfl) ?_
  exact rf_622 q hq X hX P ⟨by omega, by omega⟩
theorem rf_572 (q : ZQ) (hq : q.1.stackTraces = false) (X : Nat) (hX : X < 10000) (P : Mem) {ce sl : Nat} (hc : ce + 6 ≤ 60 ∧ sl + 36 ≤ 360) : Zg (zgX q) mL_refuses 60 360 ce sl (.inl (some 1), P) 572 [some (.inr 0), some (.inl (nI X)), none, none, none, none, none, none] [] P := by
  by_cases h0 : P 8 (2 * (X % 3) + 0) = 0
  · refine zg_aload_n (x := 0) dL_refuses_572 rfl ?_
    refine zg_iload_n (x := nI X) dL_refuses_573 rfl ?_
    refine zg_iconst (v := nI 3) dL_refuses_574 (by decide) ?_
    refine zg_iremN dL_refuses_575 (by omega) (by omega) (by omega) ?_
    refine zg_iconst (v := nI 0) dL_refuses_576 (by decide) ?_
    refine zg_iconst (v := nI 0) dL_refuses_577 (by decide) ?_
    refine zg_cW (As := [.inr 0, .inl (nI (X % 3)), .inl (nI 0), .inl (nI 0)]) (S := []) (k := (if P 8 (2 * (X % 3) + 0) = 0 then bI (f_X0_hasSpoilt (nI (40 * (X % 3) + 0)) (nI 0) P) else -9999003)) (N := P) dL_refuses_578 (ws_spoilt q hq (by omega) (by decide) (by decide)) lk_spoilt.1 lk_spoilt.2 zi_L_spoilt rfl ⟨by decide, by decide⟩ ⟨by omega, by omega⟩ rfl (by decide) ?_
    refine zg_st (pc' := 581) (L' := [some (.inr 0), some (.inl (nI X)), none, none, none, none, none, none]) (S' := [.inl (if P 8 (2 * (X % 3) + 0) = 0 then bI (f_X0_hasSpoilt (nI (40 * (X % 3) + 0)) (nI 0) P) else -9999003)]) (M' := P) rfl rfl rfl rfl ?_
    refine zg_jf (tgt := 596) dL_refuses_581 rfl (show ¬ ((if P 8 (2 * (X % 3) + 0) = 0 then bI (f_X0_hasSpoilt (nI (40 * (X % 3) + 0)) (nI 0) P) else -9999003) < 0) by rw [if_pos h0]; exact bI_ge _) ?_
    by_cases h1 : P 8 (2 * (X % 3) + 1) = 0
    · refine zg_aload_n (x := 0) dL_refuses_584 rfl ?_
      refine zg_iload_n (x := nI X) dL_refuses_585 rfl ?_
      refine zg_iconst (v := nI 3) dL_refuses_586 (by decide) ?_
      refine zg_iremN dL_refuses_587 (by omega) (by omega) (by omega) ?_
      refine zg_iconst (v := nI 1) dL_refuses_588 (by decide) ?_
      refine zg_iconst (v := nI 0) dL_refuses_589 (by decide) ?_
      refine zg_cW (As := [.inr 0, .inl (nI (X % 3)), .inl (nI 1), .inl (nI 0)]) (S := []) (k := (if P 8 (2 * (X % 3) + 1) = 0 then bI (f_X0_hasSpoilt (nI (40 * (X % 3) + 0)) (nI 1) P) else -9999003)) (N := P) dL_refuses_590 (ws_spoilt q hq (by omega) (by decide) (by decide)) lk_spoilt.1 lk_spoilt.2 zi_L_spoilt rfl ⟨by decide, by decide⟩ ⟨by omega, by omega⟩ rfl (by decide) ?_
      refine zg_st (pc' := 593) (L' := [some (.inr 0), some (.inl (nI X)), none, none, none, none, none, none]) (S' := [.inl (if P 8 (2 * (X % 3) + 1) = 0 then bI (f_X0_hasSpoilt (nI (40 * (X % 3) + 0)) (nI 1) P) else -9999003)]) (M' := P) rfl rfl rfl rfl ?_
      refine zg_jt (tgt := 622) dL_refuses_593 rfl (show (0 : Int32) ≤ (if P 8 (2 * (X % 3) + 1) = 0 then bI (f_X0_hasSpoilt (nI (40 * (X % 3) + 0)) (nI 1) P) else -9999003) by rw [if_pos h1]; cases f_X0_hasSpoilt (nI (40 * (X % 3) + 0)) (nI 1) P <;> decide) ?_
      exact rf_622 q hq X hX P ⟨by omega, by omega⟩
    · refine zg_aload_n (x := 0) dL_refuses_584 rfl ?_
      refine zg_iload_n (x := nI X) dL_refuses_585 rfl ?_
      refine zg_iconst (v := nI 3) dL_refuses_586 (by decide) ?_
      refine zg_iremN dL_refuses_587 (by omega) (by omega) (by omega) ?_
      refine zg_iconst (v := nI 1) dL_refuses_588 (by decide) ?_
      refine zg_iconst (v := nI 0) dL_refuses_589 (by decide) ?_
      refine zg_cW (As := [.inr 0, .inl (nI (X % 3)), .inl (nI 1), .inl (nI 0)]) (S := []) (k := (if P 8 (2 * (X % 3) + 1) = 0 then bI (f_X0_hasSpoilt (nI (40 * (X % 3) + 0)) (nI 1) P) else -9999003)) (N := P) dL_refuses_590 (ws_spoilt q hq (by omega) (by decide) (by decide)) lk_spoilt.1 lk_spoilt.2 zi_L_spoilt rfl ⟨by decide, by decide⟩ ⟨by omega, by omega⟩ rfl (by decide) ?_
      refine zg_st (pc' := 593) (L' := [some (.inr 0), some (.inl (nI X)), none, none, none, none, none, none]) (S' := [.inl (if P 8 (2 * (X % 3) + 1) = 0 then bI (f_X0_hasSpoilt (nI (40 * (X % 3) + 0)) (nI 1) P) else -9999003)]) (M' := P) rfl rfl rfl rfl ?_
      refine zg_jf (tgt := 622) dL_refuses_593 rfl (show ¬ ((0 : Int32) ≤ (if P 8 (2 * (X % 3) + 1) = 0 then bI (f_X0_hasSpoilt (nI (40 * (X % 3) + 0)) (nI 1) P) else -9999003)) by rw [if_neg h1]; decide) ?_
      exact rf_596 q hq X hX P ⟨by omega, by omega⟩ (fun z => h1 z.2)
  · refine zg_aload_n (x := 0) dL_refuses_572 rfl ?_
    refine zg_iload_n (x := nI X) dL_refuses_573 rfl ?_
    refine zg_iconst (v := nI 3) dL_refuses_574 (by decide) ?_
    refine zg_iremN dL_refuses_575 (by omega) (by omega) (by omega) ?_
    refine zg_iconst (v := nI 0) dL_refuses_576 (by decide) ?_
    refine zg_iconst (v := nI 0) dL_refuses_577 (by decide) ?_
    refine zg_cW (As := [.inr 0, .inl (nI (X % 3)), .inl (nI 0), .inl (nI 0)]) (S := []) (k := (if P 8 (2 * (X % 3) + 0) = 0 then bI (f_X0_hasSpoilt (nI (40 * (X % 3) + 0)) (nI 0) P) else -9999003)) (N := P) dL_refuses_578 (ws_spoilt q hq (by omega) (by decide) (by decide)) lk_spoilt.1 lk_spoilt.2 zi_L_spoilt rfl ⟨by decide, by decide⟩ ⟨by omega, by omega⟩ rfl (by decide) ?_
    refine zg_st (pc' := 581) (L' := [some (.inr 0), some (.inl (nI X)), none, none, none, none, none, none]) (S' := [.inl (if P 8 (2 * (X % 3) + 0) = 0 then bI (f_X0_hasSpoilt (nI (40 * (X % 3) + 0)) (nI 0) P) else -9999003)]) (M' := P) rfl rfl rfl rfl ?_
    refine zg_jt (tgt := 596) dL_refuses_581 rfl (show (if P 8 (2 * (X % 3) + 0) = 0 then bI (f_X0_hasSpoilt (nI (40 * (X % 3) + 0)) (nI 0) P) else -9999003) < 0 by rw [if_neg h0]; decide) ?_
    exact rf_596 q hq X hX P ⟨by omega, by omega⟩ (fun z => h0 z.1)
theorem rf_541 (q : ZQ) (hq : q.1.stackTraces = false) (X : Nat) (hX : X < 10000) (P : Mem) {ce sl : Nat} (hc : ce + 8 ≤ 60 ∧ sl + 48 ≤ 360) : Zg (zgX q) mL_refuses 60 360 ce sl (.inl (some 1), P) 541 [some (.inr 0), some (.inl (nI X)), none, none, none, none, none, some (.inl (nI (X % 40)))] [] P := by
  by_cases h : P 6 (40 * (X % 3) + X % 40) = 0
  · refine zg_aload_n (x := 0) dL_refuses_541 rfl ?_
    refine zg_iload_n (x := nI X) dL_refuses_542 rfl ?_
    refine zg_iconst (v := nI 3) dL_refuses_543 (by decide) ?_
    refine zg_iremN dL_refuses_544 (by omega) (by omega) (by omega) ?_
    refine zg_iload (x := nI (X % 40)) dL_refuses_545 rfl ?_
    refine zg_cW (As := [.inr 0, .inl (nI (X % 3)), .inl (nI (X % 40))]) (S := []) (k := bI (decide (P 6 (40 * (X % 3) + X % 40) = 0))) (N := P) dL_refuses_547 (ws_isFree q hq (by omega) (by omega)) lk_isFree.1 lk_isFree.2 zi_L_isFree rfl ⟨by decide, by decide⟩ ⟨by omega, by omega⟩ rfl (by decide) ?_
    refine zg_st (pc' := 550) (L' := [some (.inr 0), some (.inl (nI X)), none, none, none, none, none, some (.inl (nI (X % 40)))]) (S' := [.inl (bI (decide (P 6 (40 * (X % 3) + X % 40) = 0)))]) (M' := P) rfl rfl rfl rfl ?_
    refine zg_jf (tgt := 572) dL_refuses_550 rfl (show ¬ (bI (decide (P 6 (40 * (X % 3) + X % 40) = 0)) = 0) by simp [h, bI]) ?_
    refine zg_aload_n (x := 0) dL_refuses_553 rfl ?_
    refine zg_iload_n (x := nI X) dL_refuses_554 rfl ?_
    refine zg_iconst (v := nI 3) dL_refuses_555 (by decide) ?_
    refine zg_iremN dL_refuses_556 (by omega) (by omega) (by omega) ?_
    refine zg_iload_n (x := nI X) dL_refuses_557 rfl ?_
    refine zg_iconst (v := nI 3) dL_refuses_558 (by decide) ?_
    refine zg_idivN dL_refuses_559 (by omega) (by omega) (by omega) ?_
    refine zg_iconst (v := nI 2) dL_refuses_560 (by decide) ?_
    refine zg_iremN dL_refuses_561 (by omega) (by omega) (by omega) ?_
    refine zg_iload (x := nI (X % 40)) dL_refuses_562 rfl ?_
    refine zg_cW (As := [.inr 0, .inl (nI (X % 3)), .inl (nI ((X / 3) % 2)), .inl (nI (X % 40))]) (S := []) (k := (-9999003)) (N := P) dL_refuses_564 (ws_spoils q hq (by omega) (by omega) (by omega) h) lk_spoils.1 lk_spoils.2 zi_L_spoils rfl ⟨by decide, by decide⟩ ⟨by omega, by omega⟩ rfl (by decide) ?_
    refine zg_st (pc' := 567) (L' := [some (.inr 0), some (.inl (nI X)), none, none, none, none, none, some (.inl (nI (X % 40)))]) (S' := [.inl (-9999003)]) (M' := P) rfl rfl rfl rfl ?_
    refine zg_ldc (v := (-9999003)) dL_refuses_567 (zm2 115 (by decide +kernel) rfl) ?_
    refine zg_jf2 (tgt := 653) dL_refuses_569 rfl (fun z => z rfl) ?_
    refine zg_drop (L' := [some (.inr 0), some (.inl (nI X)), none, none, none, none, none, none]) ⟨rfl, ⟨rfl, trivial⟩⟩ ?_
    exact rf_572 q hq X hX P ⟨by omega, by omega⟩
  · refine zg_aload_n (x := 0) dL_refuses_541 rfl ?_
    refine zg_iload_n (x := nI X) dL_refuses_542 rfl ?_
    refine zg_iconst (v := nI 3) dL_refuses_543 (by decide) ?_
    refine zg_iremN dL_refuses_544 (by omega) (by omega) (by omega) ?_
    refine zg_iload (x := nI (X % 40)) dL_refuses_545 rfl ?_
    refine zg_cW (As := [.inr 0, .inl (nI (X % 3)), .inl (nI (X % 40))]) (S := []) (k := bI (decide (P 6 (40 * (X % 3) + X % 40) = 0))) (N := P) dL_refuses_547 (ws_isFree q hq (by omega) (by omega)) lk_isFree.1 lk_isFree.2 zi_L_isFree rfl ⟨by decide, by decide⟩ ⟨by omega, by omega⟩ rfl (by decide) ?_
    refine zg_st (pc' := 550) (L' := [some (.inr 0), some (.inl (nI X)), none, none, none, none, none, some (.inl (nI (X % 40)))]) (S' := [.inl (bI (decide (P 6 (40 * (X % 3) + X % 40) = 0)))]) (M' := P) rfl rfl rfl rfl ?_
    refine zg_jt (tgt := 572) dL_refuses_550 rfl (show bI (decide (P 6 (40 * (X % 3) + X % 40) = 0)) = 0 by simp [h, bI]) ?_
    refine zg_drop (L' := [some (.inr 0), some (.inl (nI X)), none, none, none, none, none, none]) ⟨rfl, ⟨rfl, trivial⟩⟩ ?_
    exact rf_572 q hq X hX P ⟨by omega, by omega⟩
theorem rf_t {n : Nat} (h : n < 2 ^ 31) : (nI n).toInt = (n : Int) := nI_toInt h
theorem rf_m {n : Nat} (h : n < 2 ^ 30) : ((-1 : Int32) - nI n).toInt = -1 - (n : Int) := by
  have e : (nI n).toInt = (n : Int) := nI_toInt (by omega)
  rw [Int32.toInt_sub, e, Int.bmod_eq_of_le] <;> simp <;> omega
theorem rf_s {n : Nat} (h : n < 2 ^ 30) : (nI n - nI 1).toInt = (n : Int) - 1 := by
  have e : (nI n).toInt = (n : Int) := nI_toInt (by omega)
  have e1 : (nI 1).toInt = 1 := by decide
  rw [Int32.toInt_sub, e, e1, Int.bmod_eq_of_le] <;> simp <;> omega
theorem rf_45 (q : ZQ) (hq : q.1.stackTraces = false) (X : Nat) (hX : X < 10000) (P : Mem) (a b : Int32) (ha : ¬ (0 ≤ a.toInt ∧ a.toInt < 4)) (hb : ¬ (0 ≤ b.toInt ∧ b.toInt < 12)) {ce sl : Nat} (hc : ce + 50 ≤ 60 ∧ sl + 300 ≤ 360) : Zg (zgX q) mL_refuses 60 360 ce sl (.inl (some 1), P) 45 [some (.inr 0), some (.inl (nI X)), some (.inl a), some (.inl b), none, none, none, none] [] P := by
  refine zg_iload_n (x := nI X) dL_refuses_45 rfl ?_
  refine zg_iconst (v := nI 4) dL_refuses_46 (by decide) ?_
  refine zg_iremN dL_refuses_47 (by omega) (by omega) (by omega) ?_
  refine zg_istore dL_refuses_48 (by decide) ?_
  refine zg_st (pc' := 50) (L' := [some (.inr 0), some (.inl (nI X)), some (.inl a), some (.inl b), some (.inl (nI (X % 4))), none, none, none]) (S' := []) (M' := P) rfl rfl rfl rfl ?_
  refine zg_iload_n (x := nI X) dL_refuses_50 rfl ?_
  refine zg_iconst (v := nI 4) dL_refuses_51 (by decide) ?_
  refine zg_idivN dL_refuses_52 (by omega) (by omega) (by omega) ?_
  refine zg_bipush (v := nI 12) dL_refuses_53 (by decide) ?_
  refine zg_iremN dL_refuses_55 (by omega) (by omega) (by omega) ?_
  refine zg_istore dL_refuses_56 (by decide) ?_
  refine zg_st (pc' := 58) (L' := [some (.inr 0), some (.inl (nI X)), some (.inl a), some (.inl b), some (.inl (nI (X % 4))), some (.inl (nI ((X / 4) % 12))), none, none]) (S' := []) (M' := P) rfl rfl rfl rfl ?_
  refine zg_aload_n (x := 0) dL_refuses_58 rfl ?_
  refine zg_iload_n (x := a) dL_refuses_59 rfl ?_
  refine zg_iload (x := nI ((X / 4) % 12)) dL_refuses_60 rfl ?_
  refine zg_iconst (v := nI 5) dL_refuses_62 (by decide) ?_
  refine zg_cW (As := [.inr 0, .inl a, .inl (nI ((X / 4) % 12)), .inl (nI 5)]) (S := []) (k := (-9999002)) (N := P) dL_refuses_63 (wx_writes q hq (fun z => ha z.1.1)) lk_writes.1 lk_writes.2 zi_L_writes rfl ⟨by decide, by decide⟩ ⟨by omega, by omega⟩ rfl (by decide) ?_
  refine zg_st (pc' := 66) (L' := [some (.inr 0), some (.inl (nI X)), some (.inl a), some (.inl b), some (.inl (nI (X % 4))), some (.inl (nI ((X / 4) % 12))), none, none]) (S' := [.inl (-9999002)]) (M' := P) rfl rfl rfl rfl ?_
  refine zg_ldc (v := (-9999002)) dL_refuses_66 (zm2 65 (by decide +kernel) rfl) ?_
  refine zg_jf2 (tgt := 317) dL_refuses_68 rfl (fun z => z rfl) ?_
  refine zg_aload_n (x := 0) dL_refuses_71 rfl ?_
  refine zg_iload (x := nI (X % 4)) dL_refuses_72 rfl ?_
  refine zg_iload_n (x := b) dL_refuses_74 rfl ?_
  refine zg_iconst (v := nI 5) dL_refuses_75 (by decide) ?_
  refine zg_cW (As := [.inr 0, .inl (nI (X % 4)), .inl b, .inl (nI 5)]) (S := []) (k := (-9999002)) (N := P) dL_refuses_76 (wx_writes q hq (fun z => hb z.1.2)) lk_writes.1 lk_writes.2 zi_L_writes rfl ⟨by decide, by decide⟩ ⟨by omega, by omega⟩ rfl (by decide) ?_
  refine zg_st (pc' := 79) (L' := [some (.inr 0), some (.inl (nI X)), some (.inl a), some (.inl b), some (.inl (nI (X % 4))), some (.inl (nI ((X / 4) % 12))), none, none]) (S' := [.inl (-9999002)]) (M' := P) rfl rfl rfl rfl ?_
  refine zg_ldc (v := (-9999002)) dL_refuses_79 (zm2 65 (by decide +kernel) rfl) ?_
  refine zg_jf2 (tgt := 317) dL_refuses_81 rfl (fun z => z rfl) ?_
  refine zg_aload_n (x := 0) dL_refuses_84 rfl ?_
  refine zg_iload (x := nI (X % 4)) dL_refuses_85 rfl ?_
  refine zg_iload (x := nI ((X / 4) % 12)) dL_refuses_87 rfl ?_
  refine zg_iconst (v := nI 0) dL_refuses_89 (by decide) ?_
  refine zg_cW (As := [.inr 0, .inl (nI (X % 4)), .inl (nI ((X / 4) % 12)), .inl (nI 0)]) (S := []) (k := (-9999002)) (N := P) dL_refuses_90 (wx_writes q hq (fun z => absurd z.2.1 (by decide))) lk_writes.1 lk_writes.2 zi_L_writes rfl ⟨by decide, by decide⟩ ⟨by omega, by omega⟩ rfl (by decide) ?_
  refine zg_st (pc' := 93) (L' := [some (.inr 0), some (.inl (nI X)), some (.inl a), some (.inl b), some (.inl (nI (X % 4))), some (.inl (nI ((X / 4) % 12))), none, none]) (S' := [.inl (-9999002)]) (M' := P) rfl rfl rfl rfl ?_
  refine zg_ldc (v := (-9999002)) dL_refuses_93 (zm2 65 (by decide +kernel) rfl) ?_
  refine zg_jf2 (tgt := 317) dL_refuses_95 rfl (fun z => z rfl) ?_
  refine zg_aload_n (x := 0) dL_refuses_98 rfl ?_
  refine zg_iload (x := nI (X % 4)) dL_refuses_99 rfl ?_
  refine zg_iload (x := nI ((X / 4) % 12)) dL_refuses_101 rfl ?_
  refine zg_sipush (v := nI 10000) dL_refuses_103 (by decide) ?_
  refine zg_iload_n (x := nI X) dL_refuses_106 rfl ?_
  refine zg_iaddN dL_refuses_107 ?_
  refine zg_cW (As := [.inr 0, .inl (nI (X % 4)), .inl (nI ((X / 4) % 12)), .inl (nI (10000 + X))]) (S := []) (k := (-9999002)) (N := P) dL_refuses_108 (wx_writes q hq (fun z => absurd z.2.2 (by rw [nI_toInt (by omega)]; omega))) lk_writes.1 lk_writes.2 zi_L_writes rfl ⟨by decide, by decide⟩ ⟨by omega, by omega⟩ rfl (by decide) ?_
  refine zg_st (pc' := 111) (L' := [some (.inr 0), some (.inl (nI X)), some (.inl a), some (.inl b), some (.inl (nI (X % 4))), some (.inl (nI ((X / 4) % 12))), none, none]) (S' := [.inl (-9999002)]) (M' := P) rfl rfl rfl rfl ?_
  refine zg_ldc (v := (-9999002)) dL_refuses_111 (zm2 65 (by decide +kernel) rfl) ?_
  refine zg_jf2 (tgt := 317) dL_refuses_113 rfl (fun z => z rfl) ?_
  refine zg_aload_n (x := 0) dL_refuses_116 rfl ?_
  refine zg_iload_n (x := a) dL_refuses_117 rfl ?_
  refine zg_iconst (v := nI 0) dL_refuses_118 (by decide) ?_
  refine zg_iconst (v := nI 1) dL_refuses_119 (by decide) ?_
  refine zg_cW (As := [.inr 0, .inl a, .inl (nI 0), .inl (nI 1)]) (S := []) (k := (-9999002)) (N := P) dL_refuses_120 (wx_punches q hq (fun z => ha z.1.1)) lk_punches.1 lk_punches.2 zi_L_punches rfl ⟨by decide, by decide⟩ ⟨by omega, by omega⟩ rfl (by decide) ?_
  refine zg_st (pc' := 123) (L' := [some (.inr 0), some (.inl (nI X)), some (.inl a), some (.inl b), some (.inl (nI (X % 4))), some (.inl (nI ((X / 4) % 12))), none, none]) (S' := [.inl (-9999002)]) (M' := P) rfl rfl rfl rfl ?_
  refine zg_ldc (v := (-9999002)) dL_refuses_123 (zm2 65 (by decide +kernel) rfl) ?_
  refine zg_jf2 (tgt := 317) dL_refuses_125 rfl (fun z => z rfl) ?_
  refine zg_aload_n (x := 0) dL_refuses_128 rfl ?_
  refine zg_iload (x := nI (X % 4)) dL_refuses_129 rfl ?_
  refine zg_iload_n (x := b) dL_refuses_131 rfl ?_
  refine zg_bipush (v := nI 11) dL_refuses_132 (by decide) ?_
  refine zg_cW (As := [.inr 0, .inl (nI (X % 4)), .inl b, .inl (nI 11)]) (S := []) (k := (-9999002)) (N := P) dL_refuses_134 (wx_punches q hq (fun z => hb z.1.2)) lk_punches.1 lk_punches.2 zi_L_punches rfl ⟨by decide, by decide⟩ ⟨by omega, by omega⟩ rfl (by decide) ?_
  refine zg_st (pc' := 137) (L' := [some (.inr 0), some (.inl (nI X)), some (.inl a), some (.inl b), some (.inl (nI (X % 4))), some (.inl (nI ((X / 4) % 12))), none, none]) (S' := [.inl (-9999002)]) (M' := P) rfl rfl rfl rfl ?_
  refine zg_ldc (v := (-9999002)) dL_refuses_137 (zm2 65 (by decide +kernel) rfl) ?_
  refine zg_jf2 (tgt := 317) dL_refuses_139 rfl (fun z => z rfl) ?_
  refine zg_aload_n (x := 0) dL_refuses_142 rfl ?_
  refine zg_iload (x := nI (X % 4)) dL_refuses_143 rfl ?_
  refine zg_iload (x := nI ((X / 4) % 12)) dL_refuses_145 rfl ?_
  refine zg_iload (x := nI ((X / 4) % 12)) dL_refuses_147 rfl ?_
  refine zg_iconst (v := nI 1) dL_refuses_149 (by decide) ?_
  refine zg_isub dL_refuses_150 ?_
  refine zg_cW (As := [.inr 0, .inl (nI (X % 4)), .inl (nI ((X / 4) % 12)), .inl ((nI ((X / 4) % 12)) - (nI 1))]) (S := []) (k := (-9999002)) (N := P) dL_refuses_151 (wx_punches q hq (fun z => absurd z.2.1 (by rw [rf_s (by omega)]; rw [nI_toInt (by omega)]; omega))) lk_punches.1 lk_punches.2 zi_L_punches rfl ⟨by decide, by decide⟩ ⟨by omega, by omega⟩ rfl (by decide) ?_
  refine zg_st (pc' := 154) (L' := [some (.inr 0), some (.inl (nI X)), some (.inl a), some (.inl b), some (.inl (nI (X % 4))), some (.inl (nI ((X / 4) % 12))), none, none]) (S' := [.inl (-9999002)]) (M' := P) rfl rfl rfl rfl ?_
  refine zg_ldc (v := (-9999002)) dL_refuses_154 (zm2 65 (by decide +kernel) rfl) ?_
  refine zg_jf2 (tgt := 317) dL_refuses_156 rfl (fun z => z rfl) ?_
  refine zg_aload_n (x := 0) dL_refuses_159 rfl ?_
  refine zg_iload (x := nI (X % 4)) dL_refuses_160 rfl ?_
  refine zg_iload (x := nI ((X / 4) % 12)) dL_refuses_162 rfl ?_
  refine zg_bipush (v := nI 12) dL_refuses_164 (by decide) ?_
  refine zg_iload_n (x := nI X) dL_refuses_166 rfl ?_
  refine zg_iaddN dL_refuses_167 ?_
  refine zg_cW (As := [.inr 0, .inl (nI (X % 4)), .inl (nI ((X / 4) % 12)), .inl (nI (12 + X))]) (S := []) (k := (-9999002)) (N := P) dL_refuses_168 (wx_punches q hq (fun z => absurd z.2.2 (by rw [nI_toInt (by omega)]; omega))) lk_punches.1 lk_punches.2 zi_L_punches rfl ⟨by decide, by decide⟩ ⟨by omega, by omega⟩ rfl (by decide) ?_
  refine zg_st (pc' := 171) (L' := [some (.inr 0), some (.inl (nI X)), some (.inl a), some (.inl b), some (.inl (nI (X % 4))), some (.inl (nI ((X / 4) % 12))), none, none]) (S' := [.inl (-9999002)]) (M' := P) rfl rfl rfl rfl ?_
  refine zg_ldc (v := (-9999002)) dL_refuses_171 (zm2 65 (by decide +kernel) rfl) ?_
  refine zg_jf2 (tgt := 317) dL_refuses_173 rfl (fun z => z rfl) ?_
  refine zg_aload_n (x := 0) dL_refuses_176 rfl ?_
  refine zg_iload_n (x := a) dL_refuses_177 rfl ?_
  refine zg_iconst (v := nI 1) dL_refuses_178 (by decide) ?_
  refine zg_cW (As := [.inr 0, .inl a, .inl (nI 1)]) (S := []) (k := (-9999002)) (N := P) dL_refuses_179 (wx_doubles q hq (fun z => ha z.1)) lk_doubles.1 lk_doubles.2 zi_L_doubles rfl ⟨by decide, by decide⟩ ⟨by omega, by omega⟩ rfl (by decide) ?_
  refine zg_st (pc' := 182) (L' := [some (.inr 0), some (.inl (nI X)), some (.inl a), some (.inl b), some (.inl (nI (X % 4))), some (.inl (nI ((X / 4) % 12))), none, none]) (S' := [.inl (-9999002)]) (M' := P) rfl rfl rfl rfl ?_
  refine zg_ldc (v := (-9999002)) dL_refuses_182 (zm2 65 (by decide +kernel) rfl) ?_
  refine zg_jf2 (tgt := 317) dL_refuses_184 rfl (fun z => z rfl) ?_
  refine zg_aload_n (x := 0) dL_refuses_187 rfl ?_
  refine zg_iload (x := nI (X % 4)) dL_refuses_188 rfl ?_
  refine zg_iconst (v := nI 0) dL_refuses_190 (by decide) ?_
  refine zg_cW (As := [.inr 0, .inl (nI (X % 4)), .inl (nI 0)]) (S := []) (k := (-9999002)) (N := P) dL_refuses_191 (wx_doubles q hq (fun z => absurd z.2.1 (by decide))) lk_doubles.1 lk_doubles.2 zi_L_doubles rfl ⟨by decide, by decide⟩ ⟨by omega, by omega⟩ rfl (by decide) ?_
  refine zg_st (pc' := 194) (L' := [some (.inr 0), some (.inl (nI X)), some (.inl a), some (.inl b), some (.inl (nI (X % 4))), some (.inl (nI ((X / 4) % 12))), none, none]) (S' := [.inl (-9999002)]) (M' := P) rfl rfl rfl rfl ?_
  refine zg_ldc (v := (-9999002)) dL_refuses_194 (zm2 65 (by decide +kernel) rfl) ?_
  refine zg_jf2 (tgt := 317) dL_refuses_196 rfl (fun z => z rfl) ?_
  refine zg_aload_n (x := 0) dL_refuses_199 rfl ?_
  refine zg_iload (x := nI (X % 4)) dL_refuses_200 rfl ?_
  refine zg_iconst (v := nI 3) dL_refuses_202 (by decide) ?_
  refine zg_iload_n (x := nI X) dL_refuses_203 rfl ?_
  refine zg_iaddN dL_refuses_204 ?_
  refine zg_cW (As := [.inr 0, .inl (nI (X % 4)), .inl (nI (3 + X))]) (S := []) (k := (-9999002)) (N := P) dL_refuses_205 (wx_doubles q hq (fun z => absurd z.2.2 (by rw [nI_toInt (by omega)]; omega))) lk_doubles.1 lk_doubles.2 zi_L_doubles rfl ⟨by decide, by decide⟩ ⟨by omega, by omega⟩ rfl (by decide) ?_
  refine zg_st (pc' := 208) (L' := [some (.inr 0), some (.inl (nI X)), some (.inl a), some (.inl b), some (.inl (nI (X % 4))), some (.inl (nI ((X / 4) % 12))), none, none]) (S' := [.inl (-9999002)]) (M' := P) rfl rfl rfl rfl ?_
  refine zg_ldc (v := (-9999002)) dL_refuses_208 (zm2 65 (by decide +kernel) rfl) ?_
  refine zg_jf2 (tgt := 317) dL_refuses_210 rfl (fun z => z rfl) ?_
  refine zg_aload_n (x := 0) dL_refuses_213 rfl ?_
  refine zg_iload_n (x := a) dL_refuses_214 rfl ?_
  refine zg_iload (x := nI ((X / 4) % 12)) dL_refuses_215 rfl ?_
  refine zg_cW (As := [.inr 0, .inl a, .inl (nI ((X / 4) % 12))]) (S := []) (k := (-9999002)) (N := P) dL_refuses_217 (wx_reads q hq (fun z => ha z.1)) lk_reads.1 lk_reads.2 zi_L_reads rfl ⟨by decide, by decide⟩ ⟨by omega, by omega⟩ rfl (by decide) ?_
  refine zg_st (pc' := 220) (L' := [some (.inr 0), some (.inl (nI X)), some (.inl a), some (.inl b), some (.inl (nI (X % 4))), some (.inl (nI ((X / 4) % 12))), none, none]) (S' := [.inl (-9999002)]) (M' := P) rfl rfl rfl rfl ?_
  refine zg_ldc (v := (-9999002)) dL_refuses_220 (zm2 65 (by decide +kernel) rfl) ?_
  refine zg_jf2 (tgt := 317) dL_refuses_222 rfl (fun z => z rfl) ?_
  refine zg_aload_n (x := 0) dL_refuses_225 rfl ?_
  refine zg_iload (x := nI (X % 4)) dL_refuses_226 rfl ?_
  refine zg_iload_n (x := b) dL_refuses_228 rfl ?_
  refine zg_cW (As := [.inr 0, .inl (nI (X % 4)), .inl b]) (S := []) (k := (-9999002)) (N := P) dL_refuses_229 (wx_reads q hq (fun z => hb z.2)) lk_reads.1 lk_reads.2 zi_L_reads rfl ⟨by decide, by decide⟩ ⟨by omega, by omega⟩ rfl (by decide) ?_
  refine zg_st (pc' := 232) (L' := [some (.inr 0), some (.inl (nI X)), some (.inl a), some (.inl b), some (.inl (nI (X % 4))), some (.inl (nI ((X / 4) % 12))), none, none]) (S' := [.inl (-9999002)]) (M' := P) rfl rfl rfl rfl ?_
  refine zg_ldc (v := (-9999002)) dL_refuses_232 (zm2 65 (by decide +kernel) rfl) ?_
  refine zg_jf2 (tgt := 317) dL_refuses_234 rfl (fun z => z rfl) ?_
  refine zg_aload_n (x := 0) dL_refuses_237 rfl ?_
  refine zg_iload (x := nI (X % 4)) dL_refuses_238 rfl ?_
  refine zg_iload_n (x := b) dL_refuses_240 rfl ?_
  refine zg_cW (As := [.inr 0, .inl (nI (X % 4)), .inl b]) (S := []) (k := (-9999002)) (N := P) dL_refuses_241 (wx_data q hq (fun z => hb z.2)) lk_data.1 lk_data.2 zi_L_data rfl ⟨by decide, by decide⟩ ⟨by omega, by omega⟩ rfl (by decide) ?_
  refine zg_st (pc' := 244) (L' := [some (.inr 0), some (.inl (nI X)), some (.inl a), some (.inl b), some (.inl (nI (X % 4))), some (.inl (nI ((X / 4) % 12))), none, none]) (S' := [.inl (-9999002)]) (M' := P) rfl rfl rfl rfl ?_
  refine zg_ldc (v := (-9999002)) dL_refuses_244 (zm2 65 (by decide +kernel) rfl) ?_
  refine zg_jf2 (tgt := 317) dL_refuses_246 rfl (fun z => z rfl) ?_
  refine zg_aload_n (x := 0) dL_refuses_249 rfl ?_
  refine zg_iload_n (x := a) dL_refuses_250 rfl ?_
  refine zg_iload (x := nI ((X / 4) % 12)) dL_refuses_251 rfl ?_
  refine zg_cW (As := [.inr 0, .inl a, .inl (nI ((X / 4) % 12))]) (S := []) (k := (-9999002)) (N := P) dL_refuses_253 (wx_hole q hq (fun z => ha z.1)) lk_hole.1 lk_hole.2 zi_L_hole rfl ⟨by decide, by decide⟩ ⟨by omega, by omega⟩ rfl (by decide) ?_
  refine zg_st (pc' := 256) (L' := [some (.inr 0), some (.inl (nI X)), some (.inl a), some (.inl b), some (.inl (nI (X % 4))), some (.inl (nI ((X / 4) % 12))), none, none]) (S' := [.inl (-9999002)]) (M' := P) rfl rfl rfl rfl ?_
  refine zg_ldc (v := (-9999002)) dL_refuses_256 (zm2 65 (by decide +kernel) rfl) ?_
  refine zg_jf2 (tgt := 317) dL_refuses_258 rfl (fun z => z rfl) ?_
  refine zg_aload_n (x := 0) dL_refuses_261 rfl ?_
  refine zg_iload_n (x := a) dL_refuses_262 rfl ?_
  refine zg_iconst (v := nI 0) dL_refuses_263 (by decide) ?_
  refine zg_cW (As := [.inr 0, .inl a, .inl (nI 0)]) (S := []) (k := (-9999002)) (N := P) dL_refuses_264 (wx_leaves q hq (fun z => ha ⟨z.1.1, by omega⟩)) lk_leaves.1 lk_leaves.2 zi_L_leaves rfl ⟨by decide, by decide⟩ ⟨by omega, by omega⟩ rfl (by decide) ?_
  refine zg_st (pc' := 267) (L' := [some (.inr 0), some (.inl (nI X)), some (.inl a), some (.inl b), some (.inl (nI (X % 4))), some (.inl (nI ((X / 4) % 12))), none, none]) (S' := [.inl (-9999002)]) (M' := P) rfl rfl rfl rfl ?_
  refine zg_ldc (v := (-9999002)) dL_refuses_267 (zm2 65 (by decide +kernel) rfl) ?_
  refine zg_jf2 (tgt := 317) dL_refuses_269 rfl (fun z => z rfl) ?_
  refine zg_aload_n (x := 0) dL_refuses_272 rfl ?_
  refine zg_iload_n (x := nI X) dL_refuses_273 rfl ?_
  refine zg_iconst (v := nI 3) dL_refuses_274 (by decide) ?_
  refine zg_iremN dL_refuses_275 (by omega) (by omega) (by omega) ?_
  refine zg_iconst (v := nI 2) dL_refuses_276 (by decide) ?_
  refine zg_iload_n (x := nI X) dL_refuses_277 rfl ?_
  refine zg_iaddN dL_refuses_278 ?_
  refine zg_cW (As := [.inr 0, .inl (nI (X % 3)), .inl (nI (2 + X))]) (S := []) (k := (-9999002)) (N := P) dL_refuses_279 (wx_leaves q hq (fun z => absurd z.2.2 (by rw [nI_toInt (by omega)]; omega))) lk_leaves.1 lk_leaves.2 zi_L_leaves rfl ⟨by decide, by decide⟩ ⟨by omega, by omega⟩ rfl (by decide) ?_
  refine zg_st (pc' := 282) (L' := [some (.inr 0), some (.inl (nI X)), some (.inl a), some (.inl b), some (.inl (nI (X % 4))), some (.inl (nI ((X / 4) % 12))), none, none]) (S' := [.inl (-9999002)]) (M' := P) rfl rfl rfl rfl ?_
  refine zg_ldc (v := (-9999002)) dL_refuses_282 (zm2 65 (by decide +kernel) rfl) ?_
  refine zg_jf2 (tgt := 317) dL_refuses_284 rfl (fun z => z rfl) ?_
  refine zg_aload_n (x := 0) dL_refuses_287 rfl ?_
  refine zg_iload_n (x := nI X) dL_refuses_288 rfl ?_
  refine zg_iconst (v := nI 3) dL_refuses_289 (by decide) ?_
  refine zg_iremN dL_refuses_290 (by omega) (by omega) (by omega) ?_
  refine zg_iconst (v := (-1)) dL_refuses_291 (by decide) ?_
  refine zg_iload_n (x := nI X) dL_refuses_292 rfl ?_
  refine zg_isub dL_refuses_293 ?_
  refine zg_cW (As := [.inr 0, .inl (nI (X % 3)), .inl ((-1) - (nI X))]) (S := []) (k := (-9999002)) (N := P) dL_refuses_294 (wx_returns q hq (fun z => absurd z.2.1 (by rw [rf_m (by omega)]; omega))) lk_returns.1 lk_returns.2 zi_L_returns rfl ⟨by decide, by decide⟩ ⟨by omega, by omega⟩ rfl (by decide) ?_
  refine zg_st (pc' := 297) (L' := [some (.inr 0), some (.inl (nI X)), some (.inl a), some (.inl b), some (.inl (nI (X % 4))), some (.inl (nI ((X / 4) % 12))), none, none]) (S' := [.inl (-9999002)]) (M' := P) rfl rfl rfl rfl ?_
  refine zg_ldc (v := (-9999002)) dL_refuses_297 (zm2 65 (by decide +kernel) rfl) ?_
  refine zg_jf2 (tgt := 317) dL_refuses_299 rfl (fun z => z rfl) ?_
  refine zg_aload_n (x := 0) dL_refuses_302 rfl ?_
  refine zg_iconst (v := nI 3) dL_refuses_303 (by decide) ?_
  refine zg_iconst (v := nI 0) dL_refuses_304 (by decide) ?_
  refine zg_cW (As := [.inr 0, .inl (nI 3), .inl (nI 0)]) (S := []) (k := (-9999002)) (N := P) dL_refuses_305 (wx_returns q hq (fun z => absurd z.1.2 (by decide))) lk_returns.1 lk_returns.2 zi_L_returns rfl ⟨by decide, by decide⟩ ⟨by omega, by omega⟩ rfl (by decide) ?_
  refine zg_st (pc' := 308) (L' := [some (.inr 0), some (.inl (nI X)), some (.inl a), some (.inl b), some (.inl (nI (X % 4))), some (.inl (nI ((X / 4) % 12))), none, none]) (S' := [.inl (-9999002)]) (M' := P) rfl rfl rfl rfl ?_
  refine zg_ldc (v := (-9999002)) dL_refuses_308 (zm2 65 (by decide +kernel) rfl) ?_
  refine zg_jf2 (tgt := 317) dL_refuses_310 rfl (fun z => z rfl) ?_
  refine zg_iconst (v := nI 1) dL_refuses_313 (by decide) ?_
  refine zg_goto (tgt := 318) dL_refuses_314 rfl ?_
  refine zg_istore dL_refuses_318 (by decide) ?_
  refine zg_st (pc' := 320) (L' := [some (.inr 0), some (.inl (nI X)), some (.inl a), some (.inl b), some (.inl (nI (X % 4))), some (.inl (nI ((X / 4) % 12))), some (.inl (nI 1)), none]) (S' := []) (M' := P) rfl rfl rfl rfl ?_
  refine zg_iload (x := nI 1) dL_refuses_320 rfl ?_
  refine zg_jf (tgt := 527) dL_refuses_322 rfl (show ¬ (nI 1 = 0) by decide) ?_
  refine zg_aload_n (x := 0) dL_refuses_325 rfl ?_
  refine zg_iload_n (x := nI X) dL_refuses_326 rfl ?_
  refine zg_iconst (v := nI 3) dL_refuses_327 (by decide) ?_
  refine zg_iremN dL_refuses_328 (by omega) (by omega) (by omega) ?_
  refine zg_iconst (v := nI 0) dL_refuses_329 (by decide) ?_
  refine zg_bipush (v := nI 40) dL_refuses_330 (by decide) ?_
  refine zg_iload_n (x := nI X) dL_refuses_332 rfl ?_
  refine zg_iaddN dL_refuses_333 ?_
  refine zg_cW (As := [.inr 0, .inl (nI (X % 3)), .inl (nI 0), .inl (nI (40 + X))]) (S := []) (k := (-9999002)) (N := P) dL_refuses_334 (wx_spoils q hq (fun z => absurd z.2.2 (by rw [nI_toInt (by omega)]; omega))) lk_spoils.1 lk_spoils.2 zi_L_spoils rfl ⟨by decide, by decide⟩ ⟨by omega, by omega⟩ rfl (by decide) ?_
  refine zg_st (pc' := 337) (L' := [some (.inr 0), some (.inl (nI X)), some (.inl a), some (.inl b), some (.inl (nI (X % 4))), some (.inl (nI ((X / 4) % 12))), some (.inl (nI 1)), none]) (S' := [.inl (-9999002)]) (M' := P) rfl rfl rfl rfl ?_
  refine zg_ldc (v := (-9999002)) dL_refuses_337 (zm2 65 (by decide +kernel) rfl) ?_
  refine zg_jf2 (tgt := 527) dL_refuses_339 rfl (fun z => z rfl) ?_
  refine zg_aload_n (x := 0) dL_refuses_342 rfl ?_
  refine zg_iload_n (x := a) dL_refuses_343 rfl ?_
  refine zg_iconst (v := nI 0) dL_refuses_344 (by decide) ?_
  refine zg_iconst (v := nI 0) dL_refuses_345 (by decide) ?_
  refine zg_cW (As := [.inr 0, .inl a, .inl (nI 0), .inl (nI 0)]) (S := []) (k := (-9999002)) (N := P) dL_refuses_346 (wx_spoils q hq (fun z => ha ⟨z.1.1.1, by omega⟩)) lk_spoils.1 lk_spoils.2 zi_L_spoils rfl ⟨by decide, by decide⟩ ⟨by omega, by omega⟩ rfl (by decide) ?_
  refine zg_st (pc' := 349) (L' := [some (.inr 0), some (.inl (nI X)), some (.inl a), some (.inl b), some (.inl (nI (X % 4))), some (.inl (nI ((X / 4) % 12))), some (.inl (nI 1)), none]) (S' := [.inl (-9999002)]) (M' := P) rfl rfl rfl rfl ?_
  refine zg_ldc (v := (-9999002)) dL_refuses_349 (zm2 65 (by decide +kernel) rfl) ?_
  refine zg_jf2 (tgt := 527) dL_refuses_351 rfl (fun z => z rfl) ?_
  refine zg_aload_n (x := 0) dL_refuses_354 rfl ?_
  refine zg_iconst (v := nI 0) dL_refuses_355 (by decide) ?_
  refine zg_iconst (v := nI 2) dL_refuses_356 (by decide) ?_
  refine zg_iconst (v := nI 0) dL_refuses_357 (by decide) ?_
  refine zg_cW (As := [.inr 0, .inl (nI 0), .inl (nI 2), .inl (nI 0)]) (S := []) (k := (-9999002)) (N := P) dL_refuses_358 (wx_spoils q hq (fun z => absurd z.1.2.2 (by decide))) lk_spoils.1 lk_spoils.2 zi_L_spoils rfl ⟨by decide, by decide⟩ ⟨by omega, by omega⟩ rfl (by decide) ?_
  refine zg_st (pc' := 361) (L' := [some (.inr 0), some (.inl (nI X)), some (.inl a), some (.inl b), some (.inl (nI (X % 4))), some (.inl (nI ((X / 4) % 12))), some (.inl (nI 1)), none]) (S' := [.inl (-9999002)]) (M' := P) rfl rfl rfl rfl ?_
  refine zg_ldc (v := (-9999002)) dL_refuses_361 (zm2 65 (by decide +kernel) rfl) ?_
  refine zg_jf2 (tgt := 527) dL_refuses_363 rfl (fun z => z rfl) ?_
  refine zg_aload_n (x := 0) dL_refuses_366 rfl ?_
  refine zg_iconst (v := nI 1) dL_refuses_367 (by decide) ?_
  refine zg_iconst (v := nI 1) dL_refuses_368 (by decide) ?_
  refine zg_iconst (v := (-1)) dL_refuses_369 (by decide) ?_
  refine zg_cW (As := [.inr 0, .inl (nI 1), .inl (nI 1), .inl (-1)]) (S := []) (k := (-9999002)) (N := P) dL_refuses_370 (wx_spoilt q hq (fun z => absurd z.2.1 (by decide))) lk_spoilt.1 lk_spoilt.2 zi_L_spoilt rfl ⟨by decide, by decide⟩ ⟨by omega, by omega⟩ rfl (by decide) ?_
  refine zg_st (pc' := 373) (L' := [some (.inr 0), some (.inl (nI X)), some (.inl a), some (.inl b), some (.inl (nI (X % 4))), some (.inl (nI ((X / 4) % 12))), some (.inl (nI 1)), none]) (S' := [.inl (-9999002)]) (M' := P) rfl rfl rfl rfl ?_
  refine zg_ldc (v := (-9999002)) dL_refuses_373 (zm2 65 (by decide +kernel) rfl) ?_
  refine zg_jf2 (tgt := 527) dL_refuses_375 rfl (fun z => z rfl) ?_
  refine zg_aload_n (x := 0) dL_refuses_378 rfl ?_
  refine zg_iconst (v := nI 2) dL_refuses_379 (by decide) ?_
  refine zg_bipush (v := nI 40) dL_refuses_380 (by decide) ?_
  refine zg_cW (As := [.inr 0, .inl (nI 2), .inl (nI 40)]) (S := []) (k := (-9999002)) (N := P) dL_refuses_382 (wx_isFree q hq (fun z => absurd z.2.2 (by decide))) lk_isFree.1 lk_isFree.2 zi_L_isFree rfl ⟨by decide, by decide⟩ ⟨by omega, by omega⟩ rfl (by decide) ?_
  refine zg_st (pc' := 385) (L' := [some (.inr 0), some (.inl (nI X)), some (.inl a), some (.inl b), some (.inl (nI (X % 4))), some (.inl (nI ((X / 4) % 12))), some (.inl (nI 1)), none]) (S' := [.inl (-9999002)]) (M' := P) rfl rfl rfl rfl ?_
  refine zg_ldc (v := (-9999002)) dL_refuses_385 (zm2 65 (by decide +kernel) rfl) ?_
  refine zg_jf2 (tgt := 527) dL_refuses_387 rfl (fun z => z rfl) ?_
  refine zg_aload_n (x := 0) dL_refuses_390 rfl ?_
  refine zg_iload_n (x := a) dL_refuses_391 rfl ?_
  refine zg_iconst (v := nI 1) dL_refuses_392 (by decide) ?_
  refine zg_cW (As := [.inr 0, .inl a, .inl (nI 1)]) (S := []) (k := (-9999002)) (N := P) dL_refuses_393 (wx_isFree q hq (fun z => ha ⟨z.1.1, by omega⟩)) lk_isFree.1 lk_isFree.2 zi_L_isFree rfl ⟨by decide, by decide⟩ ⟨by omega, by omega⟩ rfl (by decide) ?_
  refine zg_st (pc' := 396) (L' := [some (.inr 0), some (.inl (nI X)), some (.inl a), some (.inl b), some (.inl (nI (X % 4))), some (.inl (nI ((X / 4) % 12))), some (.inl (nI 1)), none]) (S' := [.inl (-9999002)]) (M' := P) rfl rfl rfl rfl ?_
  refine zg_ldc (v := (-9999002)) dL_refuses_396 (zm2 65 (by decide +kernel) rfl) ?_
  refine zg_jf2 (tgt := 527) dL_refuses_398 rfl (fun z => z rfl) ?_
  refine zg_aload_n (x := 0) dL_refuses_401 rfl ?_
  refine zg_iload_n (x := a) dL_refuses_402 rfl ?_
  refine zg_cW (As := [.inr 0, .inl a]) (S := []) (k := (-9999002)) (N := P) dL_refuses_403 (wx_free q hq (fun z => ha ⟨z.1, by omega⟩)) lk_free.1 lk_free.2 zi_L_free rfl ⟨by decide, by decide⟩ ⟨by omega, by omega⟩ rfl (by decide) ?_
  refine zg_st (pc' := 406) (L' := [some (.inr 0), some (.inl (nI X)), some (.inl a), some (.inl b), some (.inl (nI (X % 4))), some (.inl (nI ((X / 4) % 12))), some (.inl (nI 1)), none]) (S' := [.inl (-9999002)]) (M' := P) rfl rfl rfl rfl ?_
  refine zg_ldc (v := (-9999002)) dL_refuses_406 (zm2 65 (by decide +kernel) rfl) ?_
  refine zg_jf2 (tgt := 527) dL_refuses_408 rfl (fun z => z rfl) ?_
  refine zg_aload_n (x := 0) dL_refuses_411 rfl ?_
  refine zg_iload (x := nI (X % 4)) dL_refuses_412 rfl ?_
  refine zg_iload_n (x := b) dL_refuses_414 rfl ?_
  refine zg_cW (As := [.inr 0, .inl (nI (X % 4)), .inl b]) (S := []) (k := (-9999002)) (N := P) dL_refuses_415 (wx_places q hq (fun z => hb z.2)) lk_places.1 lk_places.2 zi_L_places rfl ⟨by decide, by decide⟩ ⟨by omega, by omega⟩ rfl (by decide) ?_
  refine zg_st (pc' := 418) (L' := [some (.inr 0), some (.inl (nI X)), some (.inl a), some (.inl b), some (.inl (nI (X % 4))), some (.inl (nI ((X / 4) % 12))), some (.inl (nI 1)), none]) (S' := [.inl (-9999002)]) (M' := P) rfl rfl rfl rfl ?_
  refine zg_ldc (v := (-9999002)) dL_refuses_418 (zm2 65 (by decide +kernel) rfl) ?_
  refine zg_jf2 (tgt := 527) dL_refuses_420 rfl (fun z => z rfl) ?_
  refine zg_aload_n (x := 0) dL_refuses_423 rfl ?_
  refine zg_iload_n (x := a) dL_refuses_424 rfl ?_
  refine zg_iload (x := nI ((X / 4) % 12)) dL_refuses_425 rfl ?_
  refine zg_iconst (v := nI 0) dL_refuses_427 (by decide) ?_
  refine zg_cW (As := [.inr 0, .inl a, .inl (nI ((X / 4) % 12)), .inl (nI 0)]) (S := []) (k := (-9999002)) (N := P) dL_refuses_428 (wx_place q hq (fun z => ha z.1)) lk_place.1 lk_place.2 zi_L_place rfl ⟨by decide, by decide⟩ ⟨by omega, by omega⟩ rfl (by decide) ?_
  refine zg_st (pc' := 431) (L' := [some (.inr 0), some (.inl (nI X)), some (.inl a), some (.inl b), some (.inl (nI (X % 4))), some (.inl (nI ((X / 4) % 12))), some (.inl (nI 1)), none]) (S' := [.inl (-9999002)]) (M' := P) rfl rfl rfl rfl ?_
  refine zg_ldc (v := (-9999002)) dL_refuses_431 (zm2 65 (by decide +kernel) rfl) ?_
  refine zg_jf2 (tgt := 527) dL_refuses_433 rfl (fun z => z rfl) ?_
  refine zg_aload_n (x := 0) dL_refuses_436 rfl ?_
  refine zg_iload (x := nI (X % 4)) dL_refuses_437 rfl ?_
  refine zg_iload (x := nI ((X / 4) % 12)) dL_refuses_439 rfl ?_
  refine zg_iconst (v := nI 2) dL_refuses_441 (by decide) ?_
  refine zg_cW (As := [.inr 0, .inl (nI (X % 4)), .inl (nI ((X / 4) % 12)), .inl (nI 2)]) (S := []) (k := (-9999004)) (N := P) dL_refuses_442 (wn_place q hq ⟨nI_r (N := 4) (by omega) (by decide), nI_r (N := 12) (by omega) (by decide)⟩ (by decide)) lk_place.1 lk_place.2 zi_L_place rfl ⟨by decide, by decide⟩ ⟨by omega, by omega⟩ rfl (by decide) ?_
  refine zg_st (pc' := 445) (L' := [some (.inr 0), some (.inl (nI X)), some (.inl a), some (.inl b), some (.inl (nI (X % 4))), some (.inl (nI ((X / 4) % 12))), some (.inl (nI 1)), none]) (S' := [.inl (-9999004)]) (M' := P) rfl rfl rfl rfl ?_
  refine zg_ldc (v := (-9999004)) dL_refuses_445 (zm2 140 (by decide +kernel) rfl) ?_
  refine zg_jf2 (tgt := 527) dL_refuses_447 rfl (fun z => z rfl) ?_
  refine zg_aload_n (x := 0) dL_refuses_450 rfl ?_
  refine zg_iload (x := nI (X % 4)) dL_refuses_451 rfl ?_
  refine zg_iload (x := nI ((X / 4) % 12)) dL_refuses_453 rfl ?_
  refine zg_iconst (v := (-1)) dL_refuses_455 (by decide) ?_
  refine zg_iload_n (x := nI X) dL_refuses_456 rfl ?_
  refine zg_isub dL_refuses_457 ?_
  refine zg_cW (As := [.inr 0, .inl (nI (X % 4)), .inl (nI ((X / 4) % 12)), .inl ((-1) - (nI X))]) (S := []) (k := (-9999004)) (N := P) dL_refuses_458 (wn_place q hq ⟨nI_r (N := 4) (by omega) (by decide), nI_r (N := 12) (by omega) (by decide)⟩ (by rw [rf_m (by omega)]; omega)) lk_place.1 lk_place.2 zi_L_place rfl ⟨by decide, by decide⟩ ⟨by omega, by omega⟩ rfl (by decide) ?_
  refine zg_st (pc' := 461) (L' := [some (.inr 0), some (.inl (nI X)), some (.inl a), some (.inl b), some (.inl (nI (X % 4))), some (.inl (nI ((X / 4) % 12))), some (.inl (nI 1)), none]) (S' := [.inl (-9999004)]) (M' := P) rfl rfl rfl rfl ?_
  refine zg_ldc (v := (-9999004)) dL_refuses_461 (zm2 140 (by decide +kernel) rfl) ?_
  refine zg_jf2 (tgt := 527) dL_refuses_463 rfl (fun z => z rfl) ?_
  refine zg_aload_n (x := 0) dL_refuses_466 rfl ?_
  refine zg_iload_n (x := a) dL_refuses_467 rfl ?_
  refine zg_iconst (v := nI 0) dL_refuses_468 (by decide) ?_
  refine zg_cW (As := [.inr 0, .inl a, .inl (nI 0)]) (S := []) (k := (-9999002)) (N := P) dL_refuses_469 (wx_nodePlace q hq ha) lk_nodePlace.1 lk_nodePlace.2 zi_L_nodePlace rfl ⟨by decide, by decide⟩ ⟨by omega, by omega⟩ rfl (by decide) ?_
  refine zg_st (pc' := 472) (L' := [some (.inr 0), some (.inl (nI X)), some (.inl a), some (.inl b), some (.inl (nI (X % 4))), some (.inl (nI ((X / 4) % 12))), some (.inl (nI 1)), none]) (S' := [.inl (-9999002)]) (M' := P) rfl rfl rfl rfl ?_
  refine zg_ldc (v := (-9999002)) dL_refuses_472 (zm2 65 (by decide +kernel) rfl) ?_
  refine zg_jf2 (tgt := 527) dL_refuses_474 rfl (fun z => z rfl) ?_
  refine zg_aload_n (x := 0) dL_refuses_477 rfl ?_
  refine zg_iload (x := nI (X % 4)) dL_refuses_478 rfl ?_
  refine zg_iconst (v := nI 2) dL_refuses_480 (by decide) ?_
  refine zg_iload_n (x := nI X) dL_refuses_481 rfl ?_
  refine zg_iaddN dL_refuses_482 ?_
  refine zg_cW (As := [.inr 0, .inl (nI (X % 4)), .inl (nI (2 + X))]) (S := []) (k := (-9999004)) (N := P) dL_refuses_483 (wn_nodePlace q hq (nI_r (N := 4) (by omega) (by decide)) (by rw [nI_toInt (by omega)]; omega)) lk_nodePlace.1 lk_nodePlace.2 zi_L_nodePlace rfl ⟨by decide, by decide⟩ ⟨by omega, by omega⟩ rfl (by decide) ?_
  refine zg_st (pc' := 486) (L' := [some (.inr 0), some (.inl (nI X)), some (.inl a), some (.inl b), some (.inl (nI (X % 4))), some (.inl (nI ((X / 4) % 12))), some (.inl (nI 1)), none]) (S' := [.inl (-9999004)]) (M' := P) rfl rfl rfl rfl ?_
  refine zg_ldc (v := (-9999004)) dL_refuses_486 (zm2 140 (by decide +kernel) rfl) ?_
  refine zg_jf2 (tgt := 527) dL_refuses_488 rfl (fun z => z rfl) ?_
  refine zg_aload_n (x := 0) dL_refuses_491 rfl ?_
  refine zg_iconst (v := (-1)) dL_refuses_492 (by decide) ?_
  refine zg_cW (As := [.inr 0, .inl (-1)]) (S := []) (k := (-9999004)) (N := P) dL_refuses_493 (wn_rootPlace q hq (by decide)) lk_rootPlace.1 lk_rootPlace.2 zi_L_rootPlace rfl ⟨by decide, by decide⟩ ⟨by omega, by omega⟩ rfl (by decide) ?_
  refine zg_st (pc' := 496) (L' := [some (.inr 0), some (.inl (nI X)), some (.inl a), some (.inl b), some (.inl (nI (X % 4))), some (.inl (nI ((X / 4) % 12))), some (.inl (nI 1)), none]) (S' := [.inl (-9999004)]) (M' := P) rfl rfl rfl rfl ?_
  refine zg_ldc (v := (-9999004)) dL_refuses_496 (zm2 140 (by decide +kernel) rfl) ?_
  refine zg_jf2 (tgt := 527) dL_refuses_498 rfl (fun z => z rfl) ?_
  refine zg_aload_n (x := 0) dL_refuses_501 rfl ?_
  refine zg_iload (x := nI (X % 4)) dL_refuses_502 rfl ?_
  refine zg_iload_n (x := b) dL_refuses_504 rfl ?_
  refine zg_cW (As := [.inr 0, .inl (nI (X % 4)), .inl b]) (S := []) (k := (-9999002)) (N := P) dL_refuses_505 (wx_birth q hq (fun z => hb z.2)) lk_birth.1 lk_birth.2 zi_L_birth rfl ⟨by decide, by decide⟩ ⟨by omega, by omega⟩ rfl (by decide) ?_
  refine zg_st (pc' := 508) (L' := [some (.inr 0), some (.inl (nI X)), some (.inl a), some (.inl b), some (.inl (nI (X % 4))), some (.inl (nI ((X / 4) % 12))), some (.inl (nI 1)), none]) (S' := [.inl (-9999002)]) (M' := P) rfl rfl rfl rfl ?_
  refine zg_ldc (v := (-9999002)) dL_refuses_508 (zm2 65 (by decide +kernel) rfl) ?_
  refine zg_jf2 (tgt := 527) dL_refuses_510 rfl (fun z => z rfl) ?_
  refine zg_aload_n (x := 0) dL_refuses_513 rfl ?_
  refine zg_iload_n (x := a) dL_refuses_514 rfl ?_
  refine zg_cW (As := [.inr 0, .inl a]) (S := []) (k := (-9999002)) (N := P) dL_refuses_515 (wx_sum q hq ha) lk_sum.1 lk_sum.2 zi_L_sum rfl ⟨by decide, by decide⟩ ⟨by omega, by omega⟩ rfl (by decide) ?_
  refine zg_st (pc' := 518) (L' := [some (.inr 0), some (.inl (nI X)), some (.inl a), some (.inl b), some (.inl (nI (X % 4))), some (.inl (nI ((X / 4) % 12))), some (.inl (nI 1)), none]) (S' := [.inl (-9999002)]) (M' := P) rfl rfl rfl rfl ?_
  refine zg_ldc (v := (-9999002)) dL_refuses_518 (zm2 65 (by decide +kernel) rfl) ?_
  refine zg_jf2 (tgt := 527) dL_refuses_520 rfl (fun z => z rfl) ?_
  refine zg_iconst (v := nI 1) dL_refuses_523 (by decide) ?_
  refine zg_goto (tgt := 528) dL_refuses_524 rfl ?_
  refine zg_istore dL_refuses_528 (by decide) ?_
  refine zg_st (pc' := 530) (L' := [some (.inr 0), some (.inl (nI X)), some (.inl a), some (.inl b), some (.inl (nI (X % 4))), some (.inl (nI ((X / 4) % 12))), some (.inl (nI 1)), none]) (S' := []) (M' := P) rfl rfl rfl rfl ?_
  refine zg_iload_n (x := nI X) dL_refuses_530 rfl ?_
  refine zg_bipush (v := nI 40) dL_refuses_531 (by decide) ?_
  refine zg_iremN dL_refuses_533 (by omega) (by omega) (by omega) ?_
  refine zg_istore dL_refuses_534 (by decide) ?_
  refine zg_st (pc' := 536) (L' := [some (.inr 0), some (.inl (nI X)), some (.inl a), some (.inl b), some (.inl (nI (X % 4))), some (.inl (nI ((X / 4) % 12))), some (.inl (nI 1)), some (.inl (nI (X % 40)))]) (S' := []) (M' := P) rfl rfl rfl rfl ?_
  refine zg_iload (x := nI 1) dL_refuses_536 rfl ?_
  refine zg_jf (tgt := 653) dL_refuses_538 rfl (show ¬ (nI 1 = 0) by decide) ?_
  refine zg_drop (L' := [some (.inr 0), some (.inl (nI X)), none, none, none, none, none, some (.inl (nI (X % 40)))]) ⟨rfl, ⟨rfl, ⟨rfl, trivial⟩⟩⟩ ?_
  exact rf_541 q hq X hX P ⟨by omega, by omega⟩
theorem rf_22 (q : ZQ) (hq : q.1.stackTraces = false) (X : Nat) (hX : X < 10000) (P : Mem) (a : Int32) (ha : ¬ (0 ≤ a.toInt ∧ a.toInt < 4)) {ce sl : Nat} (hc : ce + 50 ≤ 60 ∧ sl + 300 ≤ 360) : Zg (zgX q) mL_refuses 60 360 ce sl (.inl (some 1), P) 22 [some (.inr 0), some (.inl (nI X)), some (.inl a), none, none, none, none, none] [] P := by
  by_cases h : X % 2 = 0
  · refine zg_iload_n (x := nI X) dL_refuses_22 rfl ?_
    refine zg_iconst (v := nI 2) dL_refuses_23 (by decide) ?_
    refine zg_iremN dL_refuses_24 (by omega) (by omega) (by omega) ?_
    refine zg_jf (tgt := 38) dL_refuses_25 rfl (show ¬ ¬ (nI (X % 2) = 0) by rw [h]; decide) ?_
    refine zg_bipush (v := nI 12) dL_refuses_28 (by decide) ?_
    refine zg_iload_n (x := nI X) dL_refuses_30 rfl ?_
    refine zg_bipush (v := nI 70) dL_refuses_31 (by decide) ?_
    refine zg_iremN dL_refuses_33 (by omega) (by omega) (by omega) ?_
    refine zg_iaddN dL_refuses_34 ?_
    refine zg_goto (tgt := 44) dL_refuses_35 rfl ?_
    refine zg_istore_n dL_refuses_44 (by decide) ?_
    refine zg_st (pc' := 45) (L' := [some (.inr 0), some (.inl (nI X)), some (.inl a), some (.inl (nI (12 + (X % 70)))), none, none, none, none]) (S' := []) (M' := P) rfl rfl rfl rfl ?_
    exact rf_45 q hq X hX P a _ ha (by rw [nI_toInt (by omega)]; omega) hc
  · refine zg_iload_n (x := nI X) dL_refuses_22 rfl ?_
    refine zg_iconst (v := nI 2) dL_refuses_23 (by decide) ?_
    refine zg_iremN dL_refuses_24 (by omega) (by omega) (by omega) ?_
    refine zg_jt (tgt := 38) dL_refuses_25 rfl (show ¬ (nI (X % 2) = 0) from nI_ne0 (by omega) (by omega)) ?_
    refine zg_iconst (v := (-1)) dL_refuses_38 (by decide) ?_
    refine zg_iload_n (x := nI X) dL_refuses_39 rfl ?_
    refine zg_bipush (v := nI 70) dL_refuses_40 (by decide) ?_
    refine zg_iremN dL_refuses_42 (by omega) (by omega) (by omega) ?_
    refine zg_isub dL_refuses_43 ?_
    refine zg_istore_n dL_refuses_44 (by decide) ?_
    refine zg_st (pc' := 45) (L' := [some (.inr 0), some (.inl (nI X)), some (.inl a), some (.inl ((-1) - (nI (X % 70)))), none, none, none, none]) (S' := []) (M' := P) rfl rfl rfl rfl ?_
    exact rf_45 q hq X hX P a _ ha (by rw [rf_m (by omega)]; omega) hc
set_option maxRecDepth 100000 in
theorem k_refuses (q : ZQ) (hq : q.1.stackTraces = false) (X : Nat) (hX : X < 10000) (P : Mem) : Zc (zgX q) mL_refuses 60 360 [.inr 0, .inl (nI X)] P (.inl (some 1), P) := by
  refine Zc.of (by decide) zi_L_refuses.1 (Nat.le_of_ble_eq_true rfl) rfl ?_
  by_cases h : X % 2 = 0
  · refine zg_iload_n (x := nI X) dL_refuses_0 rfl ?_
    refine zg_iconst (v := nI 2) dL_refuses_1 (by decide) ?_
    refine zg_iremN dL_refuses_2 (by omega) (by omega) (by omega) ?_
    refine zg_jf (tgt := 15) dL_refuses_3 rfl (show ¬ ¬ (nI (X % 2) = 0) by rw [h]; decide) ?_
    refine zg_iconst (v := (-1)) dL_refuses_6 (by decide) ?_
    refine zg_iload_n (x := nI X) dL_refuses_7 rfl ?_
    refine zg_bipush (v := nI 70) dL_refuses_8 (by decide) ?_
    refine zg_iremN dL_refuses_10 (by omega) (by omega) (by omega) ?_
    refine zg_isub dL_refuses_11 ?_
    refine zg_goto (tgt := 21) dL_refuses_12 rfl ?_
    refine zg_istore_n dL_refuses_21 (by decide) ?_
    refine zg_st (pc' := 22) (L' := [some (.inr 0), some (.inl (nI X)), some (.inl ((-1) - (nI (X % 70)))), none, none, none, none, none]) (S' := []) (M' := P) rfl rfl rfl rfl ?_
    exact rf_22 q hq X hX P _ (by rw [rf_m (by omega)]; omega) ⟨by omega, by omega⟩
  · refine zg_iload_n (x := nI X) dL_refuses_0 rfl ?_
    refine zg_iconst (v := nI 2) dL_refuses_1 (by decide) ?_
    refine zg_iremN dL_refuses_2 (by omega) (by omega) (by omega) ?_
    refine zg_jt (tgt := 15) dL_refuses_3 rfl (show ¬ (nI (X % 2) = 0) from nI_ne0 (by omega) (by omega)) ?_
    refine zg_iconst (v := nI 4) dL_refuses_15 (by decide) ?_
    refine zg_iload_n (x := nI X) dL_refuses_16 rfl ?_
    refine zg_bipush (v := nI 70) dL_refuses_17 (by decide) ?_
    refine zg_iremN dL_refuses_19 (by omega) (by omega) (by omega) ?_
    refine zg_iaddN dL_refuses_20 ?_
    refine zg_istore_n dL_refuses_21 (by decide) ?_
    refine zg_st (pc' := 22) (L' := [some (.inr 0), some (.inl (nI X)), some (.inl (nI (4 + (X % 70)))), none, none, none, none, none]) (S' := []) (M' := P) rfl rfl rfl rfl ?_
    exact rf_22 q hq X hX P _ (by rw [nI_toInt (by omega)]; omega) ⟨by omega, by omega⟩
end
