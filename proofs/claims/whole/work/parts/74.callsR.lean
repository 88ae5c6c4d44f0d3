/-! the public calls but mounting and scrubbing -/
theorem sm_bgf_app : ∀ a b p f, sm_bgf (a + b) p f = sm_bgf b (p + a) (sm_bgf a p f) := by
  intro a
  induction a with
  | zero => intro b p f; rw [Nat.zero_add]; rfl
  | succ a ih =>
    intro b p f
    rw [show a + 1 + b = (a + b) + 1 by omega, show p + (a + 1) = p + 1 + a by omega]
    exact ih b (p + 1) (sm_er p f)
theorem sm_erOut {p j : Nat} {f : Nat → Int32} (h : j < 6 * p) : sm_er p f j = f j := by
  unfold sm_er
  rw [pk_un (by omega), sm_ersE, if_neg (by omega)]
theorem sm_bgfOut : ∀ n p f j, j < 6 * p → sm_bgf n p f j = f j := by
  intro n
  induction n with
  | zero => intro p f j _; rfl
  | succ n ih =>
    intro p f j h
    show sm_bgf n (p + 1) (sm_er p f) j = f j
    rw [ih _ _ _ (by omega), sm_erOut h]
theorem sl_fasE (bp : Nat) : ∀ n b w i, b * bp ≤ i → i < (b + n) * bp → sl_fas bp n b w i = false := by
  have keep : ∀ n b w i, w i = false → sl_fas bp n b w i = false := by
    intro n
    induction n with
    | zero => intro b w i h; exact h
    | succ n ih =>
      intro b w i h
      refine ih (b + 1) _ i ?_
      rw [sl_fbE]
      split
      · rfl
      · exact h
  intro n
  induction n with
  | zero => intro b w i h1 h2; rw [Nat.add_zero] at h2; omega
  | succ n ih =>
    intro b w i h1 h2
    show sl_fas bp n (b + 1) (sl_fb bp b w) i = false
    by_cases h : i < b * bp + bp
    · apply keep
      rw [sl_fbE, if_pos ⟨h1, h⟩]
    · refine ih (b + 1) _ i ?_ ?_
      · rw [Nat.succ_mul]; omega
      · rw [show b + 1 + n = b + (n + 1) by omega]; exact h2
theorem zR_init {bc bp : Nat} (hn : bc * bp ≤ 20) {S : zs_S} {M : zm_S} (hC : zC bc bp (zf_c (ss_F S)) (mm_f M)) (hd : ss_d S = mm_n M) : zR bc bp (ss_init bc bp S) (sm_begin M) := by
  have h1 := zC_ers (zf_e (ss_F S)) (bc * bp) 0 _ _ hC
  have hw : ∀ p, p < bc * bp → sl_fas bp bc 0 (zl_w (ss_L S)) p = false := fun p hp => sl_fasE bp bc 0 _ p (by omega) (by rw [Nat.zero_add]; exact hp)
  refine ⟨⟨fun j hj => ?_, h1.2⟩, ⟨rfl, rfl, hd, fun z => (by cases z), fun _ => rfl⟩, fun j hj => (by cases hj), fun j hj => (by cases hj), fun _ => ⟨⟨⟨fun p hp => ?_, fun p hp h2 => ?_⟩, rfl, rfl⟩, fun p hp h2 => ?_⟩⟩
  · show sf_eps (sf_er (zf_e (ss_F S))) (bc * bp) 0 (zf_c (ss_F S)) j = sm_bgf 20 0 (mm_f M) j
    have e : (20 : Nat) = bc * bp + (20 - bc * bp) := by omega
    rw [e, sm_bgf_app, sm_bgfOut _ _ _ _ (by omega)]
    exact h1.1 j hj
  · show sl_fas bp bc 0 (zl_w (ss_L S)) p = sm_bgw 20 0 (mm_w M) p
    rw [hw p hp, sm_bgwE, if_pos (by omega)]
  · have h2 : sl_fas bp bc 0 (zl_w (ss_L S)) p = true := h2
    rw [hw p hp] at h2; cases h2
  · have h2 : sl_fas bp bc 0 (zl_w (ss_L S)) p = true := h2
    rw [hw p hp] at h2; cases h2
theorem zR1_held {bc bp : Nat} (hbp : 0 < bp) {L : zl_S} {M : zm_S} (h : zR1 bc bp L M) (k : Int32) : sl_held bc bp L k = (pkey k && sm_held bc bp M k) := by
  rw [← zq_held hbp h.1]
  cases hk : sl_held bc bp L k with
  | false => rw [Bool.and_false]
  | true =>
    obtain ⟨q, hq⟩ := sl_held_some hk
    obtain ⟨q1, q2, q3⟩ := zq_latI hq
    have := h.2 q q1 q2
    rw [q3] at this
    rw [this]; rfl
theorem zR_has {bc bp : Nat} (hbp : 0 < bp) {S : zs_S} {M : zm_S} (k : Int32) (h : zR bc bp S M) : (ss_r S && sl_held bc bp (ss_L S) k) = (mm_r M && (pkey k && sm_held bc bp M k)) := by
  rw [← h.2.1.1]
  cases hr : ss_r S with
  | false => rfl
  | true => rw [zR1_held hbp (h.2.2.2.2 hr)]
theorem hks_eq {bc bp : Nat} (hbp : 0 < bp) {L : zl_S} {M : zm_S} (h : zq_lm bc bp L M) : ∀ n k a, sl_hks bc bp L n k a = sm_hks bc bp M n k a := by
  intro n
  induction n with
  | zero => intro k a; rfl
  | succ n ih =>
    intro k a
    show sl_hks bc bp L n (k + 1) (if sl_held bc bp L (nI k) = true then a + 1 else a) = sm_hks bc bp M n (k + 1) (if sm_held bc bp M (nI k) = true then a + 1 else a)
    rw [zq_held hbp h]
    exact ih _ _
theorem zR_size {bc bp : Nat} (hbp : 0 < bp) {S : zs_S} {M : zm_S} (h : zR bc bp S M) : (if ss_r S = true then nI (sl_hks bc bp (ss_L S) 16 0 0) else -2) = (if mm_r M = true then nI (sm_hks bc bp M 16 0 0) else -2) := by
  rw [← h.2.1.1]
  by_cases hr : ss_r S = true
  · rw [if_pos hr, if_pos hr, hks_eq hbp (h.K hr).2.2.2.1]
  · rw [if_neg hr, if_neg hr]
theorem zR_head {bc bp : Nat} {S : zs_S} {M : zm_S} (h : zR bc bp S M) : (if ss_r S = true then oN (zl_h (ss_L S)) else -2) = (if mm_r M = true then oN (mm_h M) else -2) := by
  rw [← h.2.1.1]
  by_cases hr : ss_r S = true
  · rw [if_pos hr, if_pos hr, (h.K hr).2.2.2.1.2.1]
  · rw [if_neg hr, if_neg hr]
theorem zC_rd {bc bp : Nat} {f f' : Nat → Int32} {p : Nat} (h : zC bc bp f f') (hp : p < bc * bp) (e e' : Nat → Int32) : (sf_rd f e p).1 = (sm_rd f' e' p).1 ∧ ((sf_rd f e p).1 ≠ 3 → zw_eq (sf_rd f e p).2 (sm_rd f' e' p).2) ∧ ((sf_rd f e p).1 = 3 → ∀ k, k < 6 → (sf_rd f e p).2 k = f (p * 6 + k)) :=
  zw_rd (fun k hk => by rw [h.1 _ (by omega)]; congr 1; omega) (h.2 p hp)
theorem zR_get {bc bp : Nat} (hbp : 0 < bp) {S : zs_S} {M : zm_S} (k : Int32) (h : zR bc bp S M) : (ss_get bc bp S k).1 = (sm_get bc bp M k).1 ∧ zR bc bp (ss_get bc bp S k).2 (sm_get bc bp M k).2 := by
  have e := zR_has hbp k h
  unfold ss_get sm_get
  rw [← e]
  cases hr : ss_r S with
  | false => rw [if_neg (by simp)]; exact ⟨rfl, h⟩
  | true =>
    cases hd : sl_held bc bp (ss_L S) k with
    | false => rw [if_neg (by simp)]; exact ⟨rfl, h⟩
    | true =>
      rw [if_pos (by rfl)]
      obtain ⟨q, hq⟩ := sl_held_some hd
      have hlat := zq_lat hbp (h.K hr).2.2.2.1 k
      rw [hq] at hlat
      rw [← hlat]
      show (ss_get1 S (sl_lat bc bp (ss_L S) k)).1 = (sm_get1 M (some q)).1 ∧ zR bc bp (ss_get1 S (sl_lat bc bp (ss_L S) k)).2 (sm_get1 M (some q)).2
      rw [hq]
      obtain ⟨q1, _⟩ := zq_latI hq
      have hrd := zC_rd h.1 q1 (zf_e (ss_F S)) (mm_e M)
      refine ⟨?_, h⟩
      show (if (sf_rd (zf_c (ss_F S)) (zf_e (ss_F S)) q).1 = 1 ∨ (sf_rd (zf_c (ss_F S)) (zf_e (ss_F S)) q).1 = 2 then (sf_rd (zf_c (ss_F S)) (zf_e (ss_F S)) q).2 2 else 0) = (if sm_mw (sm_rd (mm_f M) (mm_e M) q).1 = true then (sm_rd (mm_f M) (mm_e M) q).2 2 else 0)
      unfold sm_mw
      rw [← hrd.1]
      by_cases hc : (sf_rd (zf_c (ss_F S)) (zf_e (ss_F S)) q).1 = 1 ∨ (sf_rd (zf_c (ss_F S)) (zf_e (ss_F S)) q).1 = 2
      · rw [if_pos hc, if_pos (by simpa using hc)]
        exact hrd.2.1 (by omega) 2 (by omega)
      · rw [if_neg hc, if_neg (by simpa using hc)]
theorem sidx_lt {n : Nat} (hn : n < 2 ^ 31) {p : Int32} {a : Nat} (h : sidx n p = some a) : a < n := by
  unfold sidx at h
  split at h
  · rename_i hs
    obtain ⟨j, h1, h2⟩ := spg_true hn hs
    rw [h2, nI_clamp (by omega)] at h
    have := Option.some.inj h
    omega
  · cases h
theorem zR_cond {bc bp : Nat} (hn : bc * bp ≤ 20) {S : zs_S} {M : zm_S} (p : Int32) (h : zR bc bp S M) : (ss_cond (bc * bp) S p).1 = (sm_cnd (bc * bp) M p).1 ∧ zR bc bp (ss_cond (bc * bp) S p).2 (sm_cnd (bc * bp) M p).2 := by
  unfold ss_cond sm_cnd
  rcases hs : sidx (bc * bp) p with _ | a
  · exact ⟨rfl, h⟩
  · refine ⟨?_, h⟩
    have ha : a < bc * bp := sidx_lt (by omega) hs
    show nI (sf_rd (zf_c (ss_F S)) (zf_e (ss_F S)) a).1 = nI (sm_rd (mm_f M) (mm_e M) a).1
    rw [(zC_rd h.1 ha (zf_e (ss_F S)) (mm_e M)).1]
theorem zR_word {bc bp : Nat} (hn : bc * bp ≤ 20) {S : zs_S} {M : zm_S} (p k : Int32) (h : zR bc bp S M) : ss_word (bc * bp) S p k = sm_word (bc * bp) M p k := by
  unfold ss_word sm_word
  rcases hs : sidx (bc * bp) p with _ | a
  · rfl
  · rcases hk : sidx 6 k with _ | b
    · rfl
    · have ha : a < bc * bp := sidx_lt (by omega) hs
      have hb : b < 6 := sidx_lt (by omega) hk
      show zf_c (ss_F S) (a * 6 + b) = mm_f M (6 * a + b)
      rw [h.1.1 _ (by omega)]
      congr 1; omega
theorem zC_turn {bc bp : Nat} {f f' : Nat → Int32} {a b : Nat} (h : zC bc bp f f') (ha : a < bc * bp) (hb : b < 178) : zC bc bp (sf_turn f a b) (upd f' (6 * a + b / 32) (f' (6 * a + b / 32) ^^^ ((1 : Int32) <<< (nI (b % 32) &&& 31)))) := by
  have e0 : a * 6 + b / 32 = 6 * a + b / 32 := by omega
  refine ⟨fun j hj => ?_, fun p hp => ?_⟩
  · unfold sf_turn
    rw [e0]
    by_cases e : j = 6 * a + b / 32
    · subst e; rw [pk_us, pk_us, h.1 _ hj]
    · rw [pk_un e, pk_un e]; exact h.1 j hj
  · unfold sf_turn
    by_cases e : p * 6 + 5 = a * 6 + b / 32
    · have e1 : p = a := by omega
      have e2 : b / 32 = 5 := by omega
      subst e1
      have := ptn_low (u := fun k => f (p * 6 + k)) (i := b) hb (h.2 p hp)
      unfold ptn at this
      rw [e2, pk_us] at this
      rw [e2, pk_us]
      exact this
    · rw [pk_un e]; exact h.2 p hp
theorem zR_rot {bc bp : Nat} (hn : bc * bp ≤ 20) {S : zs_S} {M : zm_S} (p i : Int32) (h : zR bc bp S M) : (ss_rot (bc * bp) S p i).1 = (sm_rot (bc * bp) M p i).1 ∧ zR bc bp (ss_rot (bc * bp) S p i).2 (sm_rot (bc * bp) M p i).2 := by
  unfold ss_rot sm_rot
  rcases hs : sidx (bc * bp) p with _ | a
  · exact ⟨rfl, h⟩
  · rcases hk : sidx 178 i with _ | b
    · exact ⟨rfl, h⟩
    · have ha : a < bc * bp := sidx_lt (by omega) hs
      have hb : b < 178 := sidx_lt (by omega) hk
      exact ⟨rfl, zC_turn h.1 ha hb, h.2⟩
theorem zR_needed {bc bp : Nat} (hbp : 0 < bp) (hn : bc < 2 ^ 31) {S : zs_S} {M : zm_S} (b : Int32) (h : zR bc bp S M) : (ss_need bc bp S b).1 = sm_needed bc bp M b ∧ zR bc bp (ss_need bc bp S b).2 M := by
  unfold ss_need sm_needed
  rcases hs : sidx bc b with _ | a
  · exact ⟨rfl, h⟩
  · have ha : a < bc := sidx_lt hn hs
    show (if ss_r S = true then _ else (-2, S)).1 = (if mm_r M = true then _ else -2) ∧ zR bc bp (if ss_r S = true then _ else (-2, S)).2 M
    rw [← h.2.1.1]
    by_cases hr : ss_r S = true
    · rw [if_pos hr, if_pos hr]
      refine ⟨?_, h⟩
      show nI (sl_mk bp (sl_mn bc bp (ss_L S)) a) = nI (sm_nd bc bp M a)
      rw [zq_mk (fun q hq => zq_mn hbp (h.K hr).2.2.2.1 hq) ha]
    · rw [if_neg hr, if_neg hr]
      exact ⟨rfl, h⟩
theorem zR_arm {bc bp : Nat} {S : zs_S} {M : zm_S} (n : Int32) (h : zR bc bp S M) : (ss_arm S n).1 = (sm_arm M n).1 ∧ zR bc bp (ss_arm S n).2 (sm_arm M n).2 := by
  unfold ss_arm sm_arm
  by_cases hn : n < 0
  · rw [if_pos hn, if_pos hn]; exact ⟨rfl, h⟩
  · rw [if_neg hn, if_neg hn]
    obtain ⟨hC, ⟨p1, p2, p3, _⟩, h3⟩ := h
    exact ⟨rfl, hC, ⟨p1, p2, p3, fun _ => ⟨rfl, Int32.not_lt.mp hn⟩, fun z => (by cases z)⟩, h3⟩
/-! scrubbing -/
theorem cnt_full (x : Nat) : ∀ n s, zw_cnt x n s = n → ∀ i, s ≤ i → i < s + n → x.testBit i = true := by
  intro n
  induction n with
  | zero => intro s _ i h1 h2; omega
  | succ n ih =>
    intro s h i h1 h2
    have h : (if x.testBit s = true then 1 else 0) + zw_cnt x n (s + 1) = n + 1 := h
    have hle := zw_cnt_le x n (s + 1)
    by_cases hb : x.testBit s = true
    · rw [if_pos hb] at h
      by_cases e : i = s
      · subst e; exact hb
      · exact ih (s + 1) (by omega) i (by omega) (by omega)
    · rw [if_neg hb] at h; omega
theorem pc_full {x : Int32} (h : pc x = 32) : x = -1 := by
  rw [zw_pc] at h
  apply Int32.toBitVec_inj.mp
  apply BitVec.eq_of_getLsbD_eq
  intro i hi
  have h1 := cnt_full _ 32 0 h i (by omega) (by omega)
  have h2 : (-1 : Int32).toBitVec = BitVec.allOnes 32 := by decide
  rw [h2, BitVec.getLsbD_allOnes, decide_eq_true hi]
  exact h1
theorem pc_ones : pc (-1) = 32 := by decide
theorem pc_full18 {x : Int32} (hx : x.toBitVec.toNat < 2 ^ 18) (h : pc x = 18) : x = 262143 := by
  rw [zw_pc18 hx] at h
  apply Int32.toBitVec_inj.mp
  apply BitVec.eq_of_toNat_eq
  have h2 : (262143 : Int32).toBitVec.toNat = 2 ^ 18 - 1 := by decide
  rw [h2]
  apply Nat.eq_of_testBit_eq
  intro i
  rw [Nat.testBit_two_pow_sub_one]
  by_cases hi : i < 18
  · rw [decide_eq_true hi]
    exact cnt_full _ 18 0 h i (by omega) (by omega)
  · rw [decide_eq_false hi]
    exact Nat.testBit_lt_two_pow (Nat.lt_of_lt_of_le hx (Nat.pow_le_pow_right (by omega) (by omega)))
theorem pc_ones18 : pc 262143 = 18 := by decide
theorem and_ones {a b : Int32} : a &&& b = -1 ↔ a = -1 ∧ b = -1 := by
  have e : (-1 : Int32).toBitVec = BitVec.allOnes 32 := by decide
  rw [← Int32.toBitVec_inj, ← Int32.toBitVec_inj, ← Int32.toBitVec_inj, e, Int32.toBitVec_and]
  exact BitVec.and_eq_allOnes_iff
/-- an empty page that is not quite erased -/
theorem zs_dirt {f' u : Nat → Int32} {p : Nat} (h : ∀ k, k < 6 → u k = f' (6 * p + k)) (h5 : (u 5).toBitVec.toNat < 2 ^ 18) : decide (0 < pz u) = sm_drt f' p := by
  have e : pz u = 178 - pc (u 0) - pc (u 1) - pc (u 2) - pc (u 3) - pc (u 4) - pc (u 5) := rfl
  have l0 := pc_le (u 0)
  have l1 := pc_le (u 1)
  have l2 := pc_le (u 2)
  have l3 := pc_le (u 3)
  have l4 := pc_le (u 4)
  have l5 := pc_le18 h5
  unfold sm_drt
  rw [← h 5 (by omega), ← h 1 (by omega), ← h 2 (by omega), ← h 3 (by omega), ← h 4 (by omega), show f' (6 * p) = u 0 from (h 0 (by omega)).symm]
  by_cases ha : u 5 = 262143 ∧ u 0 &&& u 1 &&& u 2 &&& u 3 &&& u 4 = -1
  · rw [decide_eq_true ha.1, decide_eq_true ha.2]
    obtain ⟨a5, a⟩ := ha
    rw [and_ones, and_ones, and_ones, and_ones] at a
    obtain ⟨⟨⟨⟨a0, a1⟩, a2⟩, a3⟩, a4⟩ := a
    rw [decide_eq_false (by rw [e, a0, a1, a2, a3, a4, a5, pc_ones, pc_ones18]; decide)]
    rfl
  · have hz : 0 < pz u := by
      rcases Nat.eq_zero_or_pos (pz u) with q | q
      · exfalso
        apply ha
        rw [e] at q
        refine ⟨pc_full18 h5 (by omega), ?_⟩
        rw [and_ones, and_ones, and_ones, and_ones]
        exact ⟨⟨⟨⟨pc_full (by omega), pc_full (by omega)⟩, pc_full (by omega)⟩, pc_full (by omega)⟩, pc_full (by omega)⟩
      · exact q
    rw [decide_eq_true hz]
    by_cases h6 : u 5 = 262143
    · rw [decide_eq_true h6, decide_eq_false (fun z => ha ⟨h6, z⟩)]; rfl
    · rw [decide_eq_false h6]; rfl
/-- one page of a scrub -/
theorem zC_scrub {bc bp : Nat} {f f' : Nat → Int32} {p : Nat} (h : zC bc bp f f') (hp : p < bc * bp) (e e' : Nat → Int32) :
    ((sf_fr (sf_rd f e p)).1 = true ↔ ((sm_rd f' e' p).1 = 2 ∨ sm_dd f' (sm_rd f' e' p).1 p = true)) ∧ ((sf_fr (sf_rd f e p)).1 = true → zC bc bp (sf_put f (sf_fr (sf_rd f e p)).2 p) (sm_scg f' (sm_rd f' e' p).2 (sm_rd f' e' p).1 p (sm_dd f' (sm_rd f' e' p).1 p))) := by
  have hrd := zC_rd h hp e e'
  have hlow := rd_low (e := e) (h.2 p hp)
  unfold sm_dd sm_scg sm_scf
  rw [← hrd.1]
  unfold sf_fr
  by_cases h0 : (sf_rd f e p).1 = 0
  · have hz := sf_rd_zero h0
    have hd := zs_dirt (f' := f') (u := (sf_rd f e p).2) (p := p) (fun k hk => by rw [hz, zw_raw _ _ _ k hk, h.1 _ (by omega)]; congr 1; omega) hlow
    rw [h0, ← hd]
    by_cases hq : 0 < pz (sf_rd f e p).2
    · rw [if_pos ⟨rfl, hq⟩, decide_eq_true hq]
      refine ⟨⟨fun _ => Or.inr rfl, fun _ => rfl⟩, fun _ => ?_⟩
      rw [if_pos (by rfl), if_neg (by decide)]
      exact zC_er _ h
    · rw [if_neg (fun z => hq z.2), decide_eq_false hq]
      refine ⟨⟨fun z => (by cases z), fun z => ?_⟩, fun z => (by cases z)⟩
      rcases z with z | z
      · cases z
      · cases z
  · rw [if_neg (fun z => h0 z.1), decide_eq_false h0]
    by_cases h2 : (sf_rd f e p).1 = 2
    · rw [h2]
      refine ⟨⟨fun _ => Or.inl rfl, fun _ => rfl⟩, fun _ => ?_⟩
      rw [if_neg (by simp), if_pos rfl]
      exact zC_put h hlow (hrd.2.1 (by omega))
    · refine ⟨⟨fun z => absurd (of_decide_eq_true z) h2, fun z => ?_⟩, fun z => absurd (of_decide_eq_true z) h2⟩
      rcases z with z | z
      · exact absurd z h2
      · cases z
theorem zR_cells {bc bp : Nat} {S : zs_S} {M : zm_S} {f e f' : Nat → Int32} (h : zR bc bp S M) (hC : zC bc bp f f') : zR bc bp (ss_setF S (f, e)) (sm_sf M f') := ⟨hC, h.2⟩
theorem zR_scs {bc bp : Nat} : ∀ n p a S M, p + n ≤ bc * bp → zR bc bp S M → (ss_scs n p a S).1 = (sm_scs n p a M).1 ∧ zR bc bp (ss_scs n p a S).2 (sm_scs n p a M).2 := by
  intro n
  induction n with
  | zero => intro p a S M _ h; exact ⟨rfl, h⟩
  | succ n ih =>
    intro p a S M hp h
    have e1 : ss_scs (n + 1) p a S = if (sc_f S p).1 = true then (if (ss_may (sc_s S p)).1 = true then ss_scs n (p + 1) (a + 1) (sc_w (ss_may (sc_s S p)).2 p) else (-2, (ss_may (sc_s S p)).2)) else ss_scs n (p + 1) a (sc_s S p) := rfl
    have e2 : sm_scs (n + 1) p a M = if (sm_rd (mm_f M) (mm_e M) p).1 = 2 ∨ sm_scd M p = true then (if (sm_act (sm_read M p)).1 = true then sm_scs n (p + 1) (a + 1) (sm_scw (sm_act (sm_read M p)).2 p (sm_scd M p)) else (-2, (sm_act (sm_read M p)).2)) else sm_scs n (p + 1) a (sm_read M p) := rfl
    have hs := zC_scrub h.1 (show p < bc * bp by omega) (zf_e (ss_F S)) (mm_e M)
    have hs1 : ((sc_f S p).1 = true ↔ ((sm_rd (mm_f M) (mm_e M) p).1 = 2 ∨ sm_scd M p = true)) := hs.1
    rw [e1, e2]
    by_cases hc : (sc_f S p).1 = true
    · rw [if_pos hc, if_pos (hs1.mp hc)]
      obtain ⟨hC, hP, hh, hm, hL⟩ := h
      obtain ⟨a1, a2⟩ := zP_act (S := sc_s S p) (M := sm_read M p) hP
      have mL := may_L (sc_s S p)
      have mF := may_F (sc_s S p)
      have hE := sm_actE (sm_read M p)
      rcases hma : ss_may (sc_s S p) with ⟨o1, T⟩
      rcases hac : sm_act (sm_read M p) with ⟨o2, N⟩
      rw [hma] at a1 a2 mL mF
      rw [hac] at a1 a2 hE
      have a1 : o1 = o2 := a1
      subst a1
      have a3 : zP T N := a2
      have mL' : ss_L T = ss_L S := mL
      have mF' : ss_F T = (zf_c (ss_F S), (sc_f S p).2) := mF
      have hE' : N = _ := hE
      have f1 : mm_f N = mm_f M := by rw [hE']; rfl
      have f2 : mm_w N = mm_w M := by rw [hE']; rfl
      have f3 : mm_s N = mm_s M := by rw [hE']; rfl
      have f4 : mm_k N = mm_k M := by rw [hE']; rfl
      have f5 : mm_d N = mm_d M := by rw [hE']; rfl
      have f6 : mm_h N = mm_h M := by rw [hE']; rfl
      have f7 : mm_x N = mm_x M := by rw [hE']; rfl
      have f8 : mm_t N = (sm_rd (mm_f M) (mm_e M) p).1 := by rw [hE']; rfl
      have f9 : mm_e N = (sm_rd (mm_f M) (mm_e M) p).2 := by rw [hE']; rfl
      have hr : ss_r T = true → ss_r S = true := by
        intro z
        have hm2 : ss_r (ss_may (sc_s S p)).2 = true := by rw [hma]; exact z
        unfold ss_may at hm2
        split at hm2
        · cases hm2
        · exact hm2
      have hlm : ss_r S = true → zq_lm bc bp (ss_L T) N := by
        intro z
        unfold zq_lm
        rw [mL', f2, f3, f4, f5, f6, f7]
        exact (hL z).1
      have hkk : ss_r S = true → ∀ q, q < bc * bp → zl_w (ss_L T) q = true → pkey (zl_k (ss_L T) q) = true := by
        intro z
        rw [mL']; exact (hL z).2
      have hT : zR bc bp T N := by
        refine ⟨?_, a3, ?_, ?_, fun z => ⟨hlm (hr z), hkk (hr z)⟩⟩
        · rw [mF', f1]; exact hC
        · rw [mL']; exact hh
        · rw [f6]; exact hm
      cases o1 with
      | false =>
        rw [if_neg (show ¬ (false, T).1 = true from fun z => by cases z), if_neg (show ¬ (false, N).1 = true from fun z => by cases z)]
        exact ⟨rfl, hT⟩
      | true =>
        rw [if_pos rfl, if_pos rfl]
        refine ih (p + 1) (a + 1) (sc_w T p) (sm_scw N p (sm_scd M p)) (by omega) ?_
        refine zR_cells hT ?_
        rw [mF', f1, f8, f9]
        exact hs.2 hc
    · rw [if_neg hc, if_neg (fun z => hc (hs1.mpr z))]
      exact ih (p + 1) a (sc_s S p) (sm_read M p) (by omega) h
theorem zR_scrub {bc bp : Nat} {S : zs_S} {M : zm_S} (h : zR bc bp S M) : (ss_scrub bc bp S).1 = (sm_scrub bc bp M).1 ∧ zR bc bp (ss_scrub bc bp S).2 (sm_scrub bc bp M).2 := by
  unfold ss_scrub sm_scrub
  rw [← h.2.1.1]
  by_cases hr : ss_r S = true
  · rw [if_pos hr, if_pos hr]
    exact zR_scs (bc * bp) 0 0 S M (by omega) h
  · rw [if_neg hr, if_neg hr]
    exact ⟨rfl, h⟩
