def sm_gap (bc bp : Nat) (M : zm_S) : Prop := ∃ hd, mm_h M = some hd ∧ hd < bc ∧ ∃ q, hd * bp ≤ q ∧ q < hd * bp + bp ∧ mm_w M q = false
/-- each copy along the way has room -/
def sm_clsOk (bc bp : Nat) : Nat → Nat → zm_S → Prop
  | 0, _, _ => True
  | n + 1, p, M => (mm_q M p = true → sm_gap bc bp M ∧ ((sm_copy bp M p).1 = true → sm_clsOk bc bp n (p + 1) (sm_copy bp M p).2)) ∧ (mm_q M p = false → sm_clsOk bc bp n (p + 1) M)
def sm_cl0 (bc bp : Nat) (M : zm_S) (b : Nat) : zm_S := sm_cl1 bc bp (sm_setQ M (sm_wts bc bp M b (bc * bp) 0 (mm_q M)))
def sm_clOk (bc bp : Nat) (M : zm_S) (b : Nat) : Prop := sm_clsOk bc bp (bc * bp) 0 (sm_cl0 bc bp M b)
theorem sm_act_h (M : zm_S) : mm_h (sm_act M).2 = mm_h M := by rw [sm_actE]; rfl
theorem sm_copy_h (bp : Nat) (M : zm_S) (p : Nat) : mm_h (sm_copy bp M p).2 = mm_h M := by
  unfold sm_copy
  have h := sm_act_h M
  rcases hm : sm_act M with ⟨b, T⟩
  rw [hm] at h
  cases b with
  | false => exact h
  | true => exact h
theorem sm_cls_h (bp : Nat) : ∀ n p M, mm_h (sm_cls bp n p M).2 = mm_h M := by
  intro n
  induction n with
  | zero => intro p M; rfl
  | succ n ih =>
    intro p M
    show mm_h (if mm_q M p = true then (if (sm_copy bp M p).1 = true then sm_cls bp n (p + 1) (sm_copy bp M p).2 else (false, (sm_copy bp M p).2)) else sm_cls bp n (p + 1) M).2 = _
    split
    · split
      · rw [ih, sm_copy_h]
      · exact sm_copy_h bp M p
    · exact ih (p + 1) M
theorem sm_cl2_h (bp b : Nat) (g : Bool × zm_S) : mm_h (sm_cl2 bp b g).2 = mm_h g.2 := by
  obtain ⟨a, M⟩ := g
  cases a with
  | false => rfl
  | true =>
    show mm_h (sm_cl3 bp b (sm_act M)).2 = mm_h M
    have h := sm_act_h M
    rcases hm : sm_act M with ⟨c, T⟩
    rw [hm] at h
    cases c with
    | false => exact h
    | true => exact h
theorem sm_cl1_hh {bc bp : Nat} {M : zm_S} (h : zh_ok bc (mm_h M)) : zh_ok bc (mm_h (sm_cl1 bc bp M)) := by
  unfold sm_cl1
  split
  · exact sm_lowOk bc bp (mm_w M)
  · exact h
theorem sm_clean_hh {bc bp : Nat} {M : zm_S} (b : Nat) (h : zh_ok bc (mm_h M)) : zh_ok bc (mm_h (sm_clean bc bp M b).2) := by
  unfold sm_clean
  rw [sm_cl2_h, sm_cls_h]
  exact sm_cl1_hh (M := sm_setQ M (sm_wts bc bp M b (bc * bp) 0 (mm_q M))) h
theorem sm_chs_lt (bc bp : Nat) (M : zm_S) (o : Bool) : ∀ n b best least, (∀ q, best = some q → q < b) → ∀ q, (sm_chs bc bp M o n b best least).1 = some q → q < b + n := by
  intro n
  induction n with
  | zero => intro b best least h q hq; exact h q hq
  | succ n ih =>
    intro b best least h q hq
    simp only [sm_chs] at hq
    split at hq
    · have := ih (b + 1) (some b) _ (fun r hr => by have := Option.some.inj hr; omega) q hq
      omega
    · have := ih (b + 1) best least (fun r hr => by have := h r hr; omega) q hq
      omega
theorem sm_choose_lt {bc bp : Nat} {M : zm_S} {b : Nat} (h : sm_choose bc bp M = some b) : b < bc := by
  unfold sm_choose at h
  have hl := sm_chs_lt bc bp M (sm_hl bp (mm_w M) (mm_h M)) bc 0 none 0 (fun _ q => by cases q)
  rcases hc : sm_chs bc bp M (sm_hl bp (mm_w M) (mm_h M)) bc 0 none 0 with ⟨o, least⟩
  rw [hc] at h hl
  rcases o with _ | g
  · cases h
  · have hg := hl g rfl
    have : g = b := by
      simp only [sm_ch2] at h
      repeat' split at h
      all_goals first | exact Option.some.inj h | (cases h)
    omega
def sm_appOk (bc bp : Nat) (M : zm_S) : Prop := (sm_hl bp (mm_w M) (mm_h M) = false → sm_gap bc bp M) ∧ (sm_hl bp (mm_w M) (mm_h M) = true → (1 < sm_fr bc bp (mm_w M) → sm_gap bc bp (sm_setH M (sm_low bc bp (mm_w M)))) ∧ (sm_fr bc bp (mm_w M) ≤ 1 → ∀ b, sm_choose bc bp M = some b → sm_clOk bc bp M b ∧ ((sm_clean bc bp M b).1 = true → sm_gap bc bp (sm_clean bc bp M b).2)))
