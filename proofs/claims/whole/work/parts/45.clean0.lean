def sp_k (S : zs_S) (p : Nat) : zs_S := ss_setL (ss_rd S p).2 (sl_know (ss_L S) p (zf_e (ss_F (ss_rd S p).2) 0) (zf_e (ss_F (ss_rd S p).2) 1) (zf_e (ss_F (ss_rd S p).2) 3))
def ss_fp : Nat → Nat → zs_S → Bool × zs_S
  | 0, _, S => (true, S)
  | n + 1, p, S => if (ss_rd S p).1 = 3 then (false, (ss_rd S p).2) else if (ss_rd S p).1 = 0 then ss_fp n (p + 1) (ss_rd S p).2 else ss_fp n (p + 1) (sp_k S p)
def ss_fn (bc bp : Nat) (S : zs_S) : zs_S := ss_setL S (sl_setX (ss_L S) (sl_next (zl_s (ss_L S)) (sl_news (zl_w (ss_L S)) (zl_s (ss_L S)) (bc * bp) 0 none)))
def ss_find2 (bc bp : Nat) (g : Bool × zs_S) : Bool × zs_S := if g.1 = true then (true, ss_fn bc bp g.2) else g
def ss_find (bc bp : Nat) (S : zs_S) : Bool × zs_S := ss_find2 bc bp (ss_fp (bc * bp) 0 (ss_setL S (sl_all bc bp (ss_L S))))
def sk_w (bp : Nat) (S : zs_S) (p : Nat) : Int32 × zs_S := ss_wr bp (ss_rd S p).2 (zl_s (ss_L S) p) (zl_k (ss_L S) p) (zl_d (ss_L S) p)
def sk_s (bp : Nat) : Nat → Nat → zs_S → Int32 × zs_S
  | 0, _, S => (0, S)
  | n + 1, p, S => if zl_m (ss_L S) p = true then (if (sk_w bp S p).1 = 0 then sk_s bp n (p + 1) (sk_w bp S p).2 else sk_w bp S p) else sk_s bp n (p + 1) S
def sk_e (bp b : Nat) (S : zs_S) : zs_S := ss_setL (ss_setF S (sf_eps (sf_er (zf_e (ss_F S))) bp (b * bp) (zf_c (ss_F S)), sf_er (zf_e (ss_F S)))) (sl_setW (ss_L S) (sl_fb bp b (zl_w (ss_L S))))
def sk_4 (bp b : Nat) (g : Bool × zs_S) : Int32 × zs_S := if g.1 = true then (0, sk_e bp b g.2) else (-2, g.2)
def sk_3 (bp b : Nat) (g : Int32 × zs_S) : Int32 × zs_S := if g.1 = 0 then sk_4 bp b (ss_may g.2) else g
def sk_2 (bp : Nat) (S : zs_S) (b : Nat) : Int32 × zs_S := if sl_hg bp (zl_w (ss_L S)) (zl_h (ss_L S)) = none then (-1, S) else sk_3 bp b (sk_s bp bp (b * bp) S)
def sk_1 (bc bp : Nat) (S : zs_S) : Option Nat → Int32 × zs_S
  | none => (-1, S)
  | some b => sk_2 bp (ss_setL S (sl_openH bc bp (ss_L S) 1)) b
def sk_m (bc bp : Nat) (S : zs_S) : zs_S := ss_setL S (sl_setM (ss_L S) (sl_mn bc bp (ss_L S)))
def sk_clean (bc bp : Nat) (S : zs_S) : Int32 × zs_S := sk_1 bc bp (sk_m bc bp S) (sl_choose bc bp (ss_L S))
def sa_2 (g : Int32 × zs_S) : Int32 × zs_S := if g.1 = 0 then (0, ss_setL g.2 (sl_setX (ss_L g.2) (zl_x (ss_L g.2) + 1))) else g
def sa_r (S : zs_S) (k v d : Int32) : zs_S := ss_setF S (zf_c (ss_F S), sf_rec (zf_e (ss_F S)) (zl_x (ss_L S)) k v d)
def sa_1 (bp : Nat) (k v d : Int32) (g : Int32 × zs_S) : Int32 × zs_S := if g.1 = 0 then sa_2 (ss_wr bp (sa_r g.2 k v d) (zl_x (ss_L g.2)) k d) else g
def sa_0 (bc bp : Nat) (S : zs_S) : Int32 × zs_S := if sl_hg bp (zl_w (ss_L S)) (zl_h (ss_L S)) = none then sk_clean bc bp S else (0, S)
def sk_app (bc bp : Nat) (S : zs_S) (k v d : Int32) : Int32 × zs_S := sa_1 bp k v d (sa_0 bc bp (ss_setL S (sl_openH bc bp (ss_L S) 2)))
def ss_put (bc bp : Nat) (S : zs_S) (k v : Int32) : Int32 × zs_S := if pkey k = true then (if ss_r S = true then sk_app bc bp S k v 1 else (-2, S)) else (-3, S)
def ss_rem (bc bp : Nat) (S : zs_S) (k : Int32) : Int32 × zs_S := if pkey k = true then (if ss_r S = true then (if sl_held bc bp (ss_L S) k = true then sk_app bc bp S k 0 2 else (1, S)) else (-2, S)) else (-3, S)
def ss_mh (bc bp : Nat) (S : zs_S) : zs_S := ss_setL S (sl_setH (ss_L S) (sl_fhs bp (zl_w (ss_L S)) bc none))
def ss_mc (bc bp : Nat) (S : zs_S) : zs_S := if sl_fr bc bp (ss_L S) = 0 then (sk_clean bc bp S).2 else S
def ss_mo (bc bp : Nat) (g : Bool × zs_S) : Int32 × zs_S := if g.1 = true then (nI (sl_hks bc bp (ss_L (ss_mc bc bp (ss_mh bc bp (ss_setr g.2 g.1)))) 16 0 0), ss_mc bc bp (ss_mh bc bp (ss_setr g.2 g.1))) else (-1, ss_setr g.2 g.1)
def ss_mount (bc bp : Nat) (S : zs_S) : Int32 × zs_S := ss_mo bc bp (ss_find bc bp (ss_up S))
theorem may_L (S : zs_S) : ss_L (ss_may S).2 = ss_L S := by rw [ss_mayE]; rfl
theorem may_F (S : zs_S) : ss_F (ss_may S).2 = ss_F S := by rw [ss_mayE]; rfl
theorem wr_cases (bp : Nat) (S : zs_S) (s k d : Int32) : ss_wr bp S s k d = (-1, S) ∨ ss_wr bp S s k d = (-2, (ss_may S).2) ∨ ∃ p, sl_hg bp (zl_w (ss_L S)) (zl_h (ss_L S)) = some p ∧ (ss_may S).1 = true ∧ ss_wr bp S s k d = (0, ss_setL (ss_setF (ss_may S).2 (sf_put (zf_c (ss_F S)) (zf_e (ss_F S)) p, zf_e (ss_F S))) (sl_know (ss_L S) p s k d)) := by
  unfold ss_wr
  rcases hg : sl_hg bp (zl_w (ss_L S)) (zl_h (ss_L S)) with _ | p
  · exact Or.inl rfl
  · right
    have e0 : ss_wr1 S s k d (some p) = ss_wr2 p s k d (ss_may S) := rfl
    rw [e0]
    have hL := may_L S
    have hF := may_F S
    rcases hm : ss_may S with ⟨b, T⟩
    rw [hm] at hL hF
    have hL : ss_L T = ss_L S := hL
    have hF : ss_F T = ss_F S := hF
    cases b with
    | false => exact Or.inl rfl
    | true =>
      right
      refine ⟨p, rfl, rfl, ?_⟩
      show (0, ss_setL (ss_setF T (sf_put (zf_c (ss_F T)) (zf_e (ss_F T)) p, zf_e (ss_F T))) (sl_know (ss_L T) p s k d)) = (0, ss_setL (ss_setF T (sf_put (zf_c (ss_F S)) (zf_e (ss_F S)) p, zf_e (ss_F S))) (sl_know (ss_L S) p s k d))
      rw [hL, hF]
theorem wr_hh (bp : Nat) (S : zs_S) (s k d : Int32) : zl_h (ss_L (ss_wr bp S s k d).2) = zl_h (ss_L S) := by
  rcases wr_cases bp S s k d with h | h | ⟨p, _, _, h⟩
  · rw [h]
  · rw [h]; show zl_h (ss_L (ss_may S).2) = _; rw [may_L]
  · rw [h]; rfl
theorem wr_low {n bp : Nat} {S : zs_S} (s k d : Int32) (h : slow n (zf_c (ss_F S))) (he : (zf_e (ss_F S) 5).toBitVec.toNat < 2 ^ 18) : slow n (zf_c (ss_F (ss_wr bp S s k d).2)) := by
  rcases wr_cases bp S s k d with q | q | ⟨p, _, _, q⟩
  · rw [q]; exact h
  · rw [q]; show slow n (zf_c (ss_F (ss_may S).2)); rw [may_F]; exact h
  · rw [q]; exact put_low h he
theorem openH_w (bc bp : Nat) (L : zl_S) (n : Nat) : zl_w (sl_openH bc bp L n) = zl_w L := by
  unfold sl_openH
  split <;> rfl
theorem openH_ok {bc bp : Nat} {L : zl_S} (n : Nat) (h : zh_ok bc (zl_h L)) : zh_ok bc (zl_h (sl_openH bc bp L n)) := by
  unfold sl_openH
  split
  · exact zq_lowOk bc bp (zl_w L)
  · exact h
theorem choose_lt {bc bp : Nat} {L : zl_S} {b : Nat} (h : sl_choose bc bp L = some b) : b < bc := by
  unfold sl_choose at h
  rcases hf : sl_fm bc bp (zl_w L) (sl_mn bc bp L) (zl_h L) with _ | g
  · rw [hf] at h; cases h
  · rw [hf] at h
    have hg := zq_fmLt hf
    have : g = b := by
      simp only [sl_fit] at h
      repeat' split at h
      all_goals first | exact Option.some.inj h | (cases h)
    omega
theorem sk_s_hh (bp : Nat) : ∀ n p S, zl_h (ss_L (sk_s bp n p S).2) = zl_h (ss_L S) := by
  intro n
  induction n with
  | zero => intro p S; rfl
  | succ n ih =>
    intro p S
    have hw : zl_h (ss_L (sk_w bp S p).2) = zl_h (ss_L S) := wr_hh bp (ss_rd S p).2 _ _ _
    show zl_h (ss_L (if zl_m (ss_L S) p = true then (if (sk_w bp S p).1 = 0 then sk_s bp n (p + 1) (sk_w bp S p).2 else sk_w bp S p) else sk_s bp n (p + 1) S).2) = _
    split
    · split
      · rw [ih, hw]
      · exact hw
    · exact ih (p + 1) S
theorem clean_hh {bc bp : Nat} {S : zs_S} (h : zh_ok bc (zl_h (ss_L S))) : zh_ok bc (zl_h (ss_L (sk_clean bc bp S).2)) := by
  unfold sk_clean
  rcases sl_choose bc bp (ss_L S) with _ | b
  · exact h
  · have h2 : zh_ok bc (zl_h (sl_openH bc bp (sl_setM (ss_L S) (sl_mn bc bp (ss_L S))) 1)) := openH_ok (L := sl_setM (ss_L S) (sl_mn bc bp (ss_L S))) 1 h
    show zh_ok bc (zl_h (ss_L (sk_2 bp (ss_setL (sk_m bc bp S) (sl_openH bc bp (ss_L (sk_m bc bp S)) 1)) b).2))
    generalize hT : ss_setL (sk_m bc bp S) (sl_openH bc bp (ss_L (sk_m bc bp S)) 1) = T
    have hh : zh_ok bc (zl_h (ss_L T)) := by rw [← hT]; exact h2
    unfold sk_2
    split
    · exact hh
    · unfold sk_3
      have hs := sk_s_hh bp bp (b * bp) T
      split
      · unfold sk_4
        split
        · show zh_ok bc (zl_h (ss_L (ss_may (sk_s bp bp (b * bp) T).2).2))
          rw [may_L, hs]; exact hh
        · rw [may_L, hs]; exact hh
      · rw [hs]; exact hh
theorem fp_c : ∀ n p S, zf_c (ss_F (ss_fp n p S).2) = zf_c (ss_F S) := by
  intro n
  induction n with
  | zero => intro p S; rfl
  | succ n ih =>
    intro p S
    show zf_c (ss_F (if (ss_rd S p).1 = 3 then (false, (ss_rd S p).2) else if (ss_rd S p).1 = 0 then ss_fp n (p + 1) (ss_rd S p).2 else ss_fp n (p + 1) (sp_k S p)).2) = _
    split
    · rfl
    · split
      · rw [ih]; rfl
      · rw [ih]; rfl
theorem find_c (bc bp : Nat) (S : zs_S) : zf_c (ss_F (ss_find bc bp S).2) = zf_c (ss_F S) := by
  unfold ss_find ss_find2
  split
  · exact fp_c (bc * bp) 0 (ss_setL S (sl_all bc bp (ss_L S)))
  · exact fp_c (bc * bp) 0 (ss_setL S (sl_all bc bp (ss_L S)))
theorem fhs_lt (bp : Nat) (w : Nat → Bool) : ∀ n h m, (∀ j, h = some j → j < m) → n ≤ m → ∀ j, sl_fhs bp w n h = some j → j < m := by
  intro n
  induction n with
  | zero => intro h m hh _ j e; exact hh j e
  | succ n ih =>
    intro h m hh hn j e
    refine ih _ m (fun q hq => ?_) (by omega) j e
    by_cases hc : sl_free bp w n = false ∧ 0 < sl_gap bp w n
    · rw [if_pos hc] at hq
      have := Option.some.inj hq
      omega
    · rw [if_neg hc] at hq
      exact hh q hq
theorem fhs_ok (bc bp : Nat) (w : Nat → Bool) : zh_ok bc (sl_fhs bp w bc none) := fun j h => fhs_lt bp w bc none bc (fun _ q => by cases q) (Nat.le_refl _) j h
