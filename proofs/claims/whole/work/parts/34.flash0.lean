def spg (n : Nat) (p : Int32) : Bool := decide (0 ≤ p) && decide (p < nI n)
theorem ac_nat : Cond.native arraycopyName ∈ zn_tbl := zn_in (i := 181) (by decide +kernel) (by decide)
theorem ac_sta : Cond.static arraycopyName ∈ zn_tbl := zn_in (i := 180) (by decide +kernel) (by decide)
theorem ac_ini : Cond.initialized "java/lang/System" ∈ zn_tbl := zn_in (i := 48) (by decide +kernel) (by decide)
theorem ac_F_36 : Cond.methodLink R_F 36 arraycopyName ∈ zn_tbl := zn_in (i := 179) (by decide +kernel) (by decide)
theorem sf_rd_zero {f e : Nat → Int32} {p : Nat} (h : (sf_rd f e p).1 = 0) : (sf_rd f e p).2 = sf_raw f e p := by
  have key : pz (sf_raw f e p) ≤ 2 := by
    rcases Nat.lt_or_ge 2 (pz (sf_raw f e p)) with q | q
    · exfalso
      unfold sf_rd sf_rd1 at h
      rw [if_neg (by omega)] at h
      unfold sf_rd2 psafe at h
      split at h
      · exact absurd (show (3 : Nat) = 0 from h) (by decide)
      · unfold pmend at h
        split at h
        · exact absurd (show (1 : Nat) = 0 from h) (by decide)
        · rcases hk : kw (prem (sf_raw f e p) 178 0 0) with _ | i
          · rw [hk] at h
            have h : (pmend2 (sf_raw f e p) (kp2 (prem (sf_raw f e p) 178 0 0) 178 0)).1 = 0 := h
            rcases hk2 : kp2 (prem (sf_raw f e p) 178 0 0) 178 0 with _ | ⟨a, b⟩
            · rw [hk2] at h; exact absurd (show (3 : Nat) = 0 from h) (by decide)
            · rw [hk2] at h; exact absurd (show (2 : Nat) = 0 from h) (by decide)
          · rw [hk] at h; exact absurd (show (2 : Nat) = 0 from h) (by decide)
    · exact q
  unfold sf_rd sf_rd1
  rw [if_pos key]
theorem pmend_le (u : Nat → Int32) (r : Nat) : (pmend u r).1 ≤ 3 := by
  unfold pmend
  split
  · exact (by decide : (1 : Nat) ≤ 3)
  · rcases kw r with _ | i
    · show (pmend2 u (kp2 r 178 0)).1 ≤ 3
      rcases kp2 r 178 0 with _ | ⟨a, b⟩
      · exact (by decide : (3 : Nat) ≤ 3)
      · exact (by decide : (2 : Nat) ≤ 3)
    · exact (by decide : (2 : Nat) ≤ 3)
theorem sf_rd_le (f e : Nat → Int32) (p : Nat) : (sf_rd f e p).1 ≤ 3 := by
  unfold sf_rd sf_rd1
  split
  · exact (by decide : (0 : Nat) ≤ 3)
  · unfold sf_rd2 psafe
    split
    · exact (by decide : (3 : Nat) ≤ 3)
    · exact pmend_le _ _
theorem i_nlt {x : Int32} (h : ¬ x < 0) : 0 ≤ x := Int32.not_lt.mp h
theorem d_S_isKey_0 : decode b_S_isKey 0 = .ok (.iload_n 0, 1) := by decide +kernel
theorem d_S_isKey_1 : decode b_S_isKey 1 = .ok (.ifCond .lt 13, 3) := by decide +kernel
theorem d_S_isKey_4 : decode b_S_isKey 4 = .ok (.iload_n 0, 1) := by decide +kernel
theorem d_S_isKey_5 : decode b_S_isKey 5 = .ok (.bipush 16, 2) := by decide +kernel
theorem d_S_isKey_7 : decode b_S_isKey 7 = .ok (.if_icmp .ge 7, 3) := by decide +kernel
theorem d_S_isKey_10 : decode b_S_isKey 10 = .ok (.iconst 1, 1) := by decide +kernel
theorem d_S_isKey_11 : decode b_S_isKey 11 = .ok (.goto 4, 3) := by decide +kernel
theorem d_S_isKey_14 : decode b_S_isKey 14 = .ok (.iconst 0, 1) := by decide +kernel
theorem d_S_isKey_15 : decode b_S_isKey 15 = .ok (.ireturn, 1) := by decide +kernel
theorem d_S_isReadable_0 : decode b_S_isReadable 0 = .ok (.iload_n 0, 1) := by decide +kernel
theorem d_S_isReadable_1 : decode b_S_isReadable 1 = .ok (.iconst 1, 1) := by decide +kernel
theorem d_S_isReadable_2 : decode b_S_isReadable 2 = .ok (.if_icmp .eq 8, 3) := by decide +kernel
theorem d_S_isReadable_5 : decode b_S_isReadable 5 = .ok (.iload_n 0, 1) := by decide +kernel
theorem d_S_isReadable_6 : decode b_S_isReadable 6 = .ok (.iconst 2, 1) := by decide +kernel
theorem d_S_isReadable_7 : decode b_S_isReadable 7 = .ok (.if_icmp .ne 7, 3) := by decide +kernel
theorem d_S_isReadable_10 : decode b_S_isReadable 10 = .ok (.iconst 1, 1) := by decide +kernel
theorem d_S_isReadable_11 : decode b_S_isReadable 11 = .ok (.goto 4, 3) := by decide +kernel
theorem d_S_isReadable_14 : decode b_S_isReadable 14 = .ok (.iconst 0, 1) := by decide +kernel
theorem d_S_isReadable_15 : decode b_S_isReadable 15 = .ok (.ireturn, 1) := by decide +kernel
