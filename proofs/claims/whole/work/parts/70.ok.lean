/-! counting -/
def qn (q : Nat → Bool) : Nat → Nat → Nat
  | 0, _ => 0
  | n + 1, p => (if q p = true then 1 else 0) + qn q n (p + 1)
theorem qn_app (q : Nat → Bool) : ∀ a b p, qn q (a + b) p = qn q a p + qn q b (p + a) := by
  intro a
  induction a with
  | zero => intro b p; rw [Nat.zero_add]; show _ = 0 + _; rw [Nat.zero_add, Nat.add_zero]
  | succ a ih =>
    intro b p
    rw [show a + 1 + b = (a + b) + 1 by omega]
    show (if q p = true then 1 else 0) + qn q (a + b) (p + 1) = (if q p = true then 1 else 0) + qn q a (p + 1) + qn q b (p + (a + 1))
    rw [ih, show p + 1 + a = p + (a + 1) by omega, Nat.add_assoc]
theorem qn_congr {q q' : Nat → Bool} : ∀ n p, (∀ i, p ≤ i → i < p + n → q i = q' i) → qn q n p = qn q' n p := by
  intro n
  induction n with
  | zero => intro p _; rfl
  | succ n ih =>
    intro p h
    show (if q p = true then 1 else 0) + qn q n (p + 1) = (if q' p = true then 1 else 0) + qn q' n (p + 1)
    rw [h p (by omega) (by omega), ih (p + 1) (fun i h1 h2 => h i (by omega) (by omega))]
theorem qn_zero {q : Nat → Bool} : ∀ n p, (∀ i, p ≤ i → i < p + n → q i = false) → qn q n p = 0 := by
  intro n
  induction n with
  | zero => intro p _; rfl
  | succ n ih =>
    intro p h
    show (if q p = true then 1 else 0) + qn q n (p + 1) = 0
    rw [h p (by omega) (by omega), ih (p + 1) (fun i h1 h2 => h i (by omega) (by omega))]
    rfl
theorem qn_pos {q : Nat → Bool} : ∀ n p, 0 < qn q n p → ∃ i, p ≤ i ∧ i < p + n ∧ q i = true := by
  intro n
  induction n with
  | zero => intro p h; exact absurd h (by show ¬ 0 < 0; omega)
  | succ n ih =>
    intro p h
    by_cases hc : q p = true
    · exact ⟨p, Nat.le_refl _, by omega, hc⟩
    · have h' : 0 < (if q p = true then 1 else 0) + qn q n (p + 1) := h
      rw [if_neg hc, Nat.zero_add] at h'
      obtain ⟨i, h1, h2, h3⟩ := ih (p + 1) h'
      exact ⟨i, by omega, by omega, h3⟩
theorem qn_some {q : Nat → Bool} : ∀ n p i, p ≤ i → i < p + n → q i = true → 0 < qn q n p := by
  intro n
  induction n with
  | zero => intro p i h1 h2; omega
  | succ n ih =>
    intro p i h1 h2 h3
    show 0 < (if q p = true then 1 else 0) + qn q n (p + 1)
    by_cases e : i = p
    · subst e; rw [if_pos h3]; omega
    · have := ih (p + 1) i (by omega) (by omega) h3
      omega
theorem qn_le (q : Nat → Bool) : ∀ n p, qn q n p ≤ n := by
  intro n
  induction n with
  | zero => intro p; exact Nat.le_refl _
  | succ n ih =>
    intro p
    show (if q p = true then 1 else 0) + qn q n (p + 1) ≤ n + 1
    have := ih (p + 1)
    split <;> omega
/-- the pages not written -/
def zng (w : Nat → Bool) (n p : Nat) : Nat := qn (fun i => !w i) n p
theorem zng_ub {w : Nat → Bool} {g : Nat} (hg : w g = false) : ∀ n p, p ≤ g → g < p + n → zng (ub w g true) n p + 1 = zng w n p := by
  intro n
  induction n with
  | zero => intro p h1 h2; omega
  | succ n ih =>
    intro p h1 h2
    show (if (!ub w g true p) = true then 1 else 0) + zng (ub w g true) n (p + 1) + 1 = (if (!w p) = true then 1 else 0) + zng w n (p + 1)
    by_cases e : g = p
    · subst e
      have e2 : zng (ub w g true) n (g + 1) = zng w n (g + 1) := qn_congr n (g + 1) (fun i h3 h4 => by show (!ub w g true i) = !w i; rw [ub_n (by omega)])
      rw [e2, ub_s, hg]
      simp only [Bool.not_true, Bool.not_false, Bool.false_eq_true, if_false, if_true]
      omega
    · have := ih (p + 1) (by omega) (by omega)
      rw [ub_n (fun z => e z.symm)]
      omega
theorem zng_wr (w : Nat → Bool) : ∀ n p a, sm_wrs w n p a + zng w n p = a + n := by
  intro n
  induction n with
  | zero => intro p a; rfl
  | succ n ih =>
    intro p a
    show sm_wrs w n (p + 1) (if w p = true then a + 1 else a) + ((if (!w p) = true then 1 else 0) + zng w n (p + 1)) = a + (n + 1)
    have := ih (p + 1) (if w p = true then a + 1 else a)
    cases hw : w p with
    | true => rw [hw] at this; simp only [if_true, Bool.not_true, Bool.false_eq_true, if_false] at this ⊢; omega
    | false => rw [hw] at this; simp only [if_true, Bool.not_false, Bool.false_eq_true, if_false] at this ⊢; omega
theorem zng_wr0 (bp : Nat) (w : Nat → Bool) (b : Nat) : sm_wr bp w b + zng w bp (b * bp) = bp := by
  have := zng_wr w bp (b * bp) 0
  unfold sm_wr
  omega
theorem qn_nds (bc bp : Nat) (M : zm_S) : ∀ n p a, sm_nds bc bp M n p a = a + qn (sm_need bc bp M) n p := by
  intro n
  induction n with
  | zero => intro p a; rfl
  | succ n ih =>
    intro p a
    show sm_nds bc bp M n (p + 1) (if sm_need bc bp M p = true then a + 1 else a) = a + ((if sm_need bc bp M p = true then 1 else 0) + qn (sm_need bc bp M) n (p + 1))
    rw [ih]
    split <;> omega
/-- the marks of the reference -/
theorem sm_wtsE (bc bp : Nat) (M : zm_S) (b : Nat) : ∀ n p q i, sm_wts bc bp M b n p q i = if p ≤ i ∧ i < p + n then (decide (i / bp = b) && sm_need bc bp M i) else q i := by
  intro n
  induction n with
  | zero =>
    intro p q i
    show q i = _
    rw [if_neg (by omega)]
  | succ n ih =>
    intro p q i
    show sm_wts bc bp M b n (p + 1) (ub q p (decide (p / bp = b) && sm_need bc bp M p)) i = _
    rw [ih]
    by_cases h : i = p
    · subst h
      rw [if_neg (by omega), if_pos (by omega), ub_s]
    · by_cases h2 : p + 1 ≤ i ∧ i < p + 1 + n
      · rw [if_pos h2, if_pos (by omega)]
      · rw [if_neg h2, if_neg (by omega), ub_n h]
theorem zq_div {bp b i : Nat} (hb : 0 < bp) : i / bp = b ↔ b * bp ≤ i ∧ i < b * bp + bp := by
  constructor
  · intro h
    have h1 := Nat.div_mul_le_self i bp
    have h2 := Nat.lt_div_mul_add (a := i) hb
    rw [h] at h1 h2
    exact ⟨h1, h2⟩
  · intro h
    have e : i = (i - b * bp) + b * bp := by omega
    rw [e, Nat.add_mul_div_right _ _ hb, Nat.div_eq_of_lt (by omega), Nat.zero_add]
theorem sm_marks {bc bp : Nat} (hb : 0 < bp) (M : zm_S) {b : Nat} (h : b < bc) (q0 : Nat → Bool) : qn (sm_wts bc bp M b (bc * bp) 0 q0) (bc * bp) 0 = sm_nd bc bp M b := by
  have hk := zq_blk (bp := bp) h
  have e : bc * bp = b * bp + (bp + (bc * bp - (b * bp + bp))) := by omega
  have hm : ∀ i, i < bc * bp → sm_wts bc bp M b (bc * bp) 0 q0 i = (decide (i / bp = b) && sm_need bc bp M i) := fun i hi => by rw [sm_wtsE, if_pos (by omega)]
  rw [show qn (sm_wts bc bp M b (bc * bp) 0 q0) (bc * bp) 0 = qn (sm_wts bc bp M b (bc * bp) 0 q0) (b * bp + (bp + (bc * bp - (b * bp + bp)))) 0 from by rw [← e]]
  rw [qn_app, qn_app, qn_zero (b * bp) 0 (fun i h1 h2 => by
    rw [hm i (by omega), decide_eq_false (fun z => by rw [zq_div hb] at z; omega), Bool.false_and])]
  rw [qn_zero (bc * bp - (b * bp + bp)) (0 + b * bp + bp) (fun i h1 h2 => by
    rw [hm i (by omega), decide_eq_false (fun z => by rw [zq_div hb] at z; omega), Bool.false_and])]
  unfold sm_nd
  rw [qn_nds, Nat.zero_add, Nat.zero_add, Nat.add_zero, Nat.zero_add]
  exact qn_congr bp (b * bp) (fun i h1 h2 => by rw [hm i (by omega), decide_eq_true ((zq_div hb).mpr ⟨h1, h2⟩), Bool.true_and])
theorem sm_gapI {bc bp : Nat} {M : zm_S} {hd : Nat} (h : mm_h M = some hd) (hl : hd < bc) (hp : 0 < zng (mm_w M) bp (hd * bp)) : sm_gap bc bp M := by
  obtain ⟨i, h1, h2, h3⟩ := qn_pos _ _ hp
  exact ⟨hd, h, hl, i, h1, h2, by
    have h3 : (!mm_w M i) = true := h3
    cases hw : mm_w M i with
    | false => rfl
    | true => rw [hw] at h3; cases h3⟩
theorem sm_act_q (M : zm_S) : mm_q (sm_act M).2 = mm_q M := by rw [sm_actE]; rfl
theorem sm_act_w (M : zm_S) : mm_w (sm_act M).2 = mm_w M := by rw [sm_actE]; rfl
theorem sm_copy_q (bp : Nat) (M : zm_S) (p : Nat) : mm_q (sm_copy bp M p).2 = mm_q M := by
  unfold sm_copy
  have h := sm_act_q M
  rcases hm : sm_act M with ⟨b, T⟩
  rw [hm] at h
  cases b with
  | false => exact h
  | true => exact h
theorem sm_copy_w {bp : Nat} {M : zm_S} {p : Nat} (h : (sm_copy bp M p).1 = true) : mm_w (sm_copy bp M p).2 = ub (mm_w M) (sm_plO bp (mm_w M) (mm_h M)) true := by
  unfold sm_copy at h ⊢
  have hw := sm_act_w M
  have hh := sm_act_h M
  rcases hm : sm_act M with ⟨b, T⟩
  rw [hm] at h hw hh
  cases b with
  | false => cases h
  | true =>
    show ub (mm_w T) (sm_plO bp (mm_w T) (mm_h T)) true = _
    have hw : mm_w T = mm_w M := hw
    have hh : mm_h T = mm_h M := hh
    rw [hw, hh]
/-- the copies of a cleaning have room -/
theorem sm_clsI {bc bp hd : Nat} (hl : hd < bc) : ∀ n p M, mm_h M = some hd → qn (mm_q M) n p ≤ zng (mm_w M) bp (hd * bp) → sm_clsOk bc bp n p M ∧ ((sm_cls bp n p M).1 = true → zng (mm_w (sm_cls bp n p M).2) bp (hd * bp) + qn (mm_q M) n p = zng (mm_w M) bp (hd * bp)) := by
  intro n
  induction n with
  | zero => intro p M _ _; exact ⟨trivial, fun _ => rfl⟩
  | succ n ih =>
    intro p M hh hq
    have hq' : (if mm_q M p = true then 1 else 0) + qn (mm_q M) n (p + 1) ≤ zng (mm_w M) bp (hd * bp) := hq
    have e : sm_cls bp (n + 1) p M = if mm_q M p = true then (if (sm_copy bp M p).1 = true then sm_cls bp n (p + 1) (sm_copy bp M p).2 else (false, (sm_copy bp M p).2)) else sm_cls bp n (p + 1) M := rfl
    have eq : qn (mm_q M) (n + 1) p = (if mm_q M p = true then 1 else 0) + qn (mm_q M) n (p + 1) := rfl
    by_cases hc : mm_q M p = true
    · rw [if_pos hc] at hq' eq e
      have hg : sm_gap bc bp M := sm_gapI hh hl (by omega)
      have hstep : (sm_copy bp M p).1 = true → zng (mm_w (sm_copy bp M p).2) bp (hd * bp) + 1 = zng (mm_w M) bp (hd * bp) := by
        intro h1
        rw [sm_copy_w h1, hh]
        obtain ⟨hd', h2, _, q, h3, h4, h5⟩ := hg
        have e2 : hd = hd' := Option.some.inj (hh.symm.trans h2)
        subst e2
        obtain ⟨a, b, c⟩ := sm_pls_lt (mm_w M) bp (hd * bp) ⟨q, h3, h4, h5⟩
        exact zng_ub c bp (hd * bp) b a
      have hi : (sm_copy bp M p).1 = true → _ := fun h1 => ih (p + 1) (sm_copy bp M p).2 (by rw [sm_copy_h]; exact hh) (by have := hstep h1; rw [sm_copy_q]; omega)
      refine ⟨⟨fun _ => ⟨hg, fun h1 => (hi h1).1⟩, fun z => (by rw [hc] at z; cases z)⟩, fun h1 => ?_⟩
      rw [e] at h1 ⊢
      by_cases h2 : (sm_copy bp M p).1 = true
      · rw [if_pos h2] at h1 ⊢
        have h3 := (hi h2).2 h1
        have h4 := hstep h2
        rw [sm_copy_q] at h3
        omega
      · rw [if_neg h2] at h1; cases h1
    · rw [if_neg hc] at hq' eq e
      have hi := ih (p + 1) M hh (by omega)
      refine ⟨⟨fun z => absurd z hc, fun _ => hi.1⟩, fun h1 => ?_⟩
      rw [e] at h1 ⊢
      have h3 := hi.2 h1
      omega
theorem sm_bgwE : ∀ n p w i, sm_bgw n p w i = if p ≤ i ∧ i < p + n then false else w i := by
  intro n
  induction n with
  | zero =>
    intro p w i
    show w i = _
    rw [if_neg (by omega)]
  | succ n ih =>
    intro p w i
    show sm_bgw n (p + 1) (ub w p false) i = _
    rw [ih]
    by_cases h : i = p
    · subst h
      rw [if_neg (by omega), if_pos (by omega), ub_s]
    · by_cases h2 : p + 1 ≤ i ∧ i < p + 1 + n
      · rw [if_pos h2, if_pos (by omega)]
      · rw [if_neg h2, if_neg (by omega), ub_n h]
/-- a block that is chosen: fewer pages needed than there is room for -/
theorem sm_chooseI {bc bp : Nat} {M : zm_S} {b : Nat} (h : sm_choose bc bp M = some b) : b < bc ∧ sm_nd bc bp M b < bp ∧ (sm_hl bp (mm_w M) (mm_h M) = true → 0 < sm_fr bc bp (mm_w M)) ∧ (∀ j, mm_h M = some j → sm_hl bp (mm_w M) (mm_h M) = false → sm_nd bc bp M b ≤ bp - sm_wr bp (mm_w M) j) := by
  have hb := sm_choose_lt h
  refine ⟨hb, ?_⟩
  have hle := sm_ndLe bc bp M b
  unfold sm_choose at h
  generalize ho : sm_hl bp (mm_w M) (mm_h M) = o at h ⊢
  have hf := zq_fms (bc := bc) (bp := bp) (M := M) (w := mm_w M) (mk := sm_need bc bp M) (o := o) (op := if o = true then none else mm_h M) (fun _ _ => rfl) (fun _ _ => rfl) (fun b => by
    cases o with
    | true => simp
    | false => simp) bc 0 none 0 (by omega) (fun q h => by cases h)
  rcases hr : sm_chs bc bp M o bc 0 none 0 with ⟨r1, r2⟩
  rw [hr] at h hf
  cases r1 with
  | none => cases h
  | some c =>
    have h2 := (hf.2 c rfl).2
    have h2 : r2 = sm_nd bc bp M c := h2
    have h : (if r2 = bp ∨ (o = true ∧ sm_fr bc bp (mm_w M) = 0) then none else if o = true then some c else match mm_h M with
      | none => some c
      | some h => if bp - sm_wr bp (mm_w M) h < r2 then none else some c) = some b := h
    by_cases h3 : r2 = bp ∨ (o = true ∧ sm_fr bc bp (mm_w M) = 0)
    · rw [if_pos h3] at h; cases h
    · rw [if_neg h3] at h
      have hcb : c = b := by
        repeat' split at h
        all_goals first | exact Option.some.inj h | (cases h)
      subst hcb
      refine ⟨by omega, fun h4 => ?_, fun j hj h4 => ?_⟩
      · rcases Nat.eq_zero_or_pos (sm_fr bc bp (mm_w M)) with h5 | h5
        · exact absurd (Or.inr ⟨h4, h5⟩) h3
        · exact h5
      · rw [if_neg (by rw [h4]; decide), hj] at h
        by_cases h5 : bp - sm_wr bp (mm_w M) j < r2
        · have h : (if bp - sm_wr bp (mm_w M) j < r2 then none else some c) = some c := h
          rw [if_pos h5] at h; cases h
        · omega
theorem sm_lowI (bp : Nat) (w : Nat → Bool) : ∀ n best, (∀ j, best = some j → sm_wr bp w j = 0) → (∀ j, sm_lows bp w n best = some j → sm_wr bp w j = 0) ∧ (sm_lows bp w n best = none → best = none ∧ ∀ m, m < n → sm_wr bp w m ≠ 0) := by
  intro n
  induction n with
  | zero => intro best h; exact ⟨h, fun z => ⟨z, fun m hm => by omega⟩⟩
  | succ n ih =>
    intro best h
    show (∀ j, sm_lows bp w n (if sm_wr bp w n = 0 then some n else best) = some j → _) ∧ (sm_lows bp w n (if sm_wr bp w n = 0 then some n else best) = none → _)
    by_cases hc : sm_wr bp w n = 0
    · rw [if_pos hc]
      have := ih (some n) (fun j hj => by cases hj; exact hc)
      exact ⟨this.1, fun z => by cases (this.2 z).1⟩
    · rw [if_neg hc]
      have := ih best h
      refine ⟨this.1, fun z => ⟨(this.2 z).1, fun m hm => ?_⟩⟩
      rcases Nat.lt_or_ge m n with q | q
      · exact (this.2 z).2 m q
      · have : m = n := by omega
        subst this; exact hc
theorem sm_fr0 (bp : Nat) (w : Nat → Bool) : ∀ n b a, (∀ m, b ≤ m → m < b + n → sm_wr bp w m ≠ 0) → sm_frs bp w n b a = a := by
  intro n
  induction n with
  | zero => intro b a _; rfl
  | succ n ih =>
    intro b a h
    show sm_frs bp w n (b + 1) (if sm_wr bp w b = 0 then a + 1 else a) = a
    rw [if_neg (h b (by omega) (by omega))]
    exact ih (b + 1) a (fun m h1 h2 => h m (by omega) (by omega))
theorem sm_lowS {bc bp : Nat} {w : Nat → Bool} (h : 0 < sm_fr bc bp w) : ∃ j, sm_low bc bp w = some j ∧ j < bc ∧ sm_wr bp w j = 0 := by
  have hi := sm_lowI bp w bc none (fun j h => by cases h)
  rcases he : sm_low bc bp w with _ | j
  · have := (hi.2 he).2
    have h0 := sm_fr0 bp w bc 0 0 (fun m _ h2 => this m (by omega))
    unfold sm_fr at h
    omega
  · exact ⟨j, rfl, sm_lowOk bc bp w j he, hi.1 j he⟩
/-- a cleaning of a chosen block has room, and leaves some if the head was moved -/
theorem sm_clI {bc bp : Nat} (hbp : 0 < bp) {M : zm_S} {b : Nat} (hh : zh_ok bc (mm_h M)) (h : sm_choose bc bp M = some b) : sm_clOk bc bp M b ∧ (sm_hl bp (mm_w M) (mm_h M) = true → (sm_clean bc bp M b).1 = true → sm_gap bc bp (sm_clean bc bp M b).2) := by
  obtain ⟨hb, h1, h2, h3⟩ := sm_chooseI h
  have hm := sm_marks hbp M hb (mm_q M)
  -- the head after moving
  have hx : ∃ hd, hd < bc ∧ mm_h (sm_cl0 bc bp M b) = some hd ∧ sm_nd bc bp M b ≤ zng (mm_w M) bp (hd * bp) ∧ (sm_hl bp (mm_w M) (mm_h M) = true → sm_nd bc bp M b < zng (mm_w M) bp (hd * bp)) := by
    unfold sm_cl0 sm_cl1
    by_cases hl : sm_hl bp (mm_w M) (mm_h M) = true
    · have e : sm_hl bp (mm_w (sm_setQ M (sm_wts bc bp M b (bc * bp) 0 (mm_q M)))) (mm_h (sm_setQ M (sm_wts bc bp M b (bc * bp) 0 (mm_q M)))) = true := hl
      rw [if_pos e]
      obtain ⟨j, q1, q2, q3⟩ := sm_lowS (h2 hl)
      have := zng_wr0 bp (mm_w M) j
      exact ⟨j, q2, q1, by omega, fun _ => by omega⟩
    · have e : ¬ sm_hl bp (mm_w (sm_setQ M (sm_wts bc bp M b (bc * bp) 0 (mm_q M)))) (mm_h (sm_setQ M (sm_wts bc bp M b (bc * bp) 0 (mm_q M)))) = true := hl
      rw [if_neg e]
      rcases hq : mm_h M with _ | j
      · rw [hq] at hl; exact absurd rfl hl
      · have := zng_wr0 bp (mm_w M) j
        have h4 := h3 j hq (zb_tf hl)
        exact ⟨j, hh j hq, hq, by omega, fun z => absurd z (by rw [← hq]; exact hl)⟩
  obtain ⟨hd, q1, q2, q3, q4⟩ := hx
  have ew : mm_w (sm_cl0 bc bp M b) = mm_w M := by unfold sm_cl0 sm_cl1; split <;> rfl
  have eq : mm_q (sm_cl0 bc bp M b) = sm_wts bc bp M b (bc * bp) 0 (mm_q M) := by unfold sm_cl0 sm_cl1; split <;> rfl
  have hc := sm_clsI q1 (bc * bp) 0 (sm_cl0 bc bp M b) q2 (by rw [eq, ew, hm]; exact q3)
  refine ⟨hc.1, fun hl hs => ?_⟩
  have e : sm_clean bc bp M b = sm_cl2 bp b (sm_cls bp (bc * bp) 0 (sm_cl0 bc bp M b)) := rfl
  rw [e] at hs ⊢
  have hh2 := sm_cls_h bp (bc * bp) 0 (sm_cl0 bc bp M b)
  have hc2 := hc.2
  rw [eq, ew, hm] at hc2
  rcases hr : sm_cls bp (bc * bp) 0 (sm_cl0 bc bp M b) with ⟨c, T⟩
  rw [hr] at hs hh2 hc2
  cases c with
  | false => cases hs
  | true =>
    have hw := sm_act_w T
    have hh3 := sm_act_h T
    have hs : (sm_cl3 bp b (sm_act T)).1 = true := hs
    show sm_gap bc bp (sm_cl3 bp b (sm_act T)).2
    rcases ha : sm_act T with ⟨c2, U⟩
    rw [ha] at hs hw hh3
    cases c2 with
    | false => cases hs
    | true =>
      have hw : mm_w U = mm_w T := hw
      have hh3 : mm_h U = mm_h T := hh3
      have hh2 : mm_h T = mm_h (sm_cl0 bc bp M b) := hh2
      have hc2 : zng (mm_w T) bp (hd * bp) + sm_nd bc bp M b = zng (mm_w M) bp (hd * bp) := hc2 rfl
      have := q4 hl
      obtain ⟨hd', g1, g2, q, g3, g4, g5⟩ := sm_gapI (M := U) (bp := bp) (by rw [hh3, hh2]; exact q2) q1 (by rw [hw]; omega)
      refine ⟨hd', g1, g2, q, g3, g4, ?_⟩
      show sm_bgw bp (b * bp) (mm_w U) q = false
      rw [sm_bgwE]
      split
      · rfl
      · exact g5
theorem sm_hlG {bc bp : Nat} {M : zm_S} (hh : zh_ok bc (mm_h M)) (h : sm_hl bp (mm_w M) (mm_h M) = false) : sm_gap bc bp M := by
  rcases hq : mm_h M with _ | j
  · rw [hq] at h; cases h
  · rw [hq] at h
    have h : decide (sm_wr bp (mm_w M) j = bp) = false := h
    rw [decide_eq_false_iff_not] at h
    have := zng_wr0 bp (mm_w M) j
    exact sm_gapI hq (hh j hq) (by omega)
theorem sm_lowG {bc bp : Nat} (hbp : 0 < bp) {M : zm_S} (h : 1 < sm_fr bc bp (mm_w M)) : sm_gap bc bp (sm_setH M (sm_low bc bp (mm_w M))) := by
  obtain ⟨j, q1, q2, q3⟩ := sm_lowS (bc := bc) (bp := bp) (w := mm_w M) (by omega)
  have := zng_wr0 bp (mm_w M) j
  exact sm_gapI (M := sm_setH M (sm_low bc bp (mm_w M))) q1 q2 (by show 0 < zng (mm_w M) bp (j * bp); omega)
theorem sm_appI {bc bp : Nat} (hbp : 0 < bp) {M : zm_S} (hh : zh_ok bc (mm_h M)) : sm_appOk bc bp M :=
  ⟨sm_hlG hh, fun hl => ⟨sm_lowG hbp, fun _ b hb => ⟨(sm_clI hbp hh hb).1, (sm_clI hbp hh hb).2 hl⟩⟩⟩
theorem sm_moI {bc bp : Nat} (hbp : 0 < bp) (M : zm_S) : sm_moOk bc bp M :=
  fun _ _ b hb => (sm_clI hbp (sm_mhs_ok bc bp (mm_w (sm_mg bc bp M).1)) hb).1
