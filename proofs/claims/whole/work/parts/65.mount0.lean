def sm_mw (t : Nat) : Bool := decide (t = 1) || decide (t = 2)
def sm_mst (M : zm_S) (p : Nat) (g : Nat × (Nat → Int32)) : zm_S := zmk (mm_f M) (ub (mm_w M) p (sm_mw g.1)) (mm_q M) (upd (mm_s M) p (g.2 0)) (upd (mm_k M) p (g.2 1)) (upd (mm_d M) p (g.2 3)) (mm_h M) (mm_x M) (mm_r M && !decide (g.1 = 3)) (mm_c M) (mm_a M) (mm_n M) g.1 g.2
def sm_mgr (any : Bool) (gr : Int32) (w : Bool) (x : Int32) : Int32 := if w = true ∧ (any = false ∨ gr < x) then x else gr
def sm_ms : Nat → Nat → zm_S → Bool → Int32 → zm_S × Bool × Int32
  | 0, _, M, any, gr => (M, any, gr)
  | n + 1, p, M, any, gr => sm_ms n (p + 1) (sm_mst M p (sm_rd (mm_f M) (mm_e M) p)) (any || sm_mw (sm_rd (mm_f M) (mm_e M) p).1) (sm_mgr any gr (sm_mw (sm_rd (mm_f M) (mm_e M) p).1) ((sm_rd (mm_f M) (mm_e M) p).2 0))
def sm_mup (M : zm_S) : zm_S := zmk (mm_f M) (mm_w M) (mm_q M) (mm_s M) (mm_k M) (mm_d M) (mm_h M) (mm_x M) true false (-1) (mm_n M) (mm_t M) (mm_e M)
def sm_mnx (any : Bool) (gr : Int32) : Int32 := if any = true then gr + 1 else 1
def sm_mhs (bp : Nat) (w : Nat → Bool) : Nat → Option Nat → Option Nat
  | 0, h => h
  | n + 1, h => sm_mhs bp w n (if 0 < sm_wr bp w n ∧ sm_wr bp w n < bp then some n else h)
def sm_mhd (bc bp : Nat) (M : zm_S) (x : Int32) : zm_S := zmk (mm_f M) (mm_w M) (mm_q M) (mm_s M) (mm_k M) (mm_d M) (sm_mhs bp (mm_w M) bc none) x (mm_r M) (mm_c M) (mm_a M) (mm_n M) (mm_t M) (mm_e M)
def sm_mcl1 (bc bp : Nat) (M : zm_S) : Option Nat → zm_S
  | none => M
  | some b => (sm_clean bc bp M b).2
def sm_mcl (bc bp : Nat) (M : zm_S) : zm_S := if sm_fr bc bp (mm_w M) = 0 then sm_mcl1 bc bp M (sm_choose bc bp M) else M
def sm_mo1 (bc bp : Nat) (M : zm_S) : Int32 × zm_S := (nI (sm_hks bc bp M 16 0 0), M)
def sm_mg (bc bp : Nat) (M : zm_S) : zm_S × Bool × Int32 := sm_ms (bc * bp) 0 (sm_mup M) false 0
def sm_mh (bc bp : Nat) (g : zm_S × Bool × Int32) : zm_S := sm_mhd bc bp g.1 (sm_mnx g.2.1 g.2.2)
def sm_mo (bc bp : Nat) (g : zm_S × Bool × Int32) : Int32 × zm_S := if mm_r g.1 = true then sm_mo1 bc bp (sm_mcl bc bp (sm_mh bc bp g)) else (-1, g.1)
def sm_mount (bc bp : Nat) (M : zm_S) : Int32 × zm_S := sm_mo bc bp (sm_mg bc bp M)
def sm_moOk (bc bp : Nat) (M : zm_S) : Prop := mm_r (sm_mg bc bp M).1 = true → sm_fr bc bp (mm_w (sm_mh bc bp (sm_mg bc bp M))) = 0 → ∀ b, sm_choose bc bp (sm_mh bc bp (sm_mg bc bp M)) = some b → sm_clOk bc bp (sm_mh bc bp (sm_mg bc bp M)) b
theorem sm_mhs_lt (bp : Nat) (w : Nat → Bool) : ∀ n h m, (∀ j, h = some j → j < m) → n ≤ m → ∀ j, sm_mhs bp w n h = some j → j < m := by
  intro n
  induction n with
  | zero => intro h m hh _ j e; exact hh j e
  | succ n ih =>
    intro h m hh hn j e
    refine ih _ m (fun q hq => ?_) (by omega) j e
    by_cases hc : 0 < sm_wr bp w n ∧ sm_wr bp w n < bp
    · rw [if_pos hc] at hq
      have := Option.some.inj hq
      omega
    · rw [if_neg hc] at hq
      exact hh q hq
theorem sm_mhs_ok (bc bp : Nat) (w : Nat → Bool) : zh_ok bc (sm_mhs bp w bc none) := fun j h => sm_mhs_lt bp w bc none bc (fun _ q => by cases q) (Nat.le_refl _) j h
def sm_put (bc bp : Nat) (M : zm_S) (k v : Int32) : Int32 × zm_S := if pkey k = true then (if mm_r M = true then sm_app bc bp M k v 1 else (-2, M)) else (-3, M)
def sm_rem (bc bp : Nat) (M : zm_S) (k : Int32) : Int32 × zm_S := if pkey k = true then (if mm_r M = true then (if sm_held bc bp M k = true then sm_app bc bp M k 0 2 else (1, M)) else (-2, M)) else (-3, M)
def sm_get1 (M : zm_S) : Option Nat → Int32 × zm_S
  | none => (0, M)
  | some q => ((if sm_mw (sm_rd (mm_f M) (mm_e M) q).1 = true then (sm_rd (mm_f M) (mm_e M) q).2 2 else 0), sm_read M q)
def sm_get (bc bp : Nat) (M : zm_S) (k : Int32) : Int32 × zm_S := if (mm_r M && (pkey k && sm_held bc bp M k)) = true then sm_get1 M (sm_lat bc bp M k) else (0, M)
def sm_drt (f : Nat → Int32) (p : Nat) : Bool := !decide (f (6 * p + 5) = 262143) || !decide (f (6 * p) &&& f (6 * p + 1) &&& f (6 * p + 2) &&& f (6 * p + 3) &&& f (6 * p + 4) = -1)
def sm_dd (f : Nat → Int32) (t p : Nat) : Bool := decide (t = 0) && sm_drt f p
def sm_scf (f e : Nat → Int32) (t p : Nat) : Nat → Int32 := if t = 2 then sm_wls e p 6 0 f else f
def sm_scg (f e : Nat → Int32) (t p : Nat) (dd : Bool) : Nat → Int32 := if dd = true then sm_er p (sm_scf f e t p) else sm_scf f e t p
def sm_scw (M : zm_S) (p : Nat) (dd : Bool) : zm_S := sm_sf M (sm_scg (mm_f M) (mm_e M) (mm_t M) p dd)
def sm_scd (M : zm_S) (p : Nat) : Bool := sm_dd (mm_f M) (sm_rd (mm_f M) (mm_e M) p).1 p
def sm_scs : Nat → Nat → Nat → zm_S → Int32 × zm_S
  | 0, _, a, M => (nI a, M)
  | n + 1, p, a, M => if (sm_rd (mm_f M) (mm_e M) p).1 = 2 ∨ sm_scd M p = true then (if (sm_act (sm_read M p)).1 = true then sm_scs n (p + 1) (a + 1) (sm_scw (sm_act (sm_read M p)).2 p (sm_scd M p)) else (-2, (sm_act (sm_read M p)).2)) else sm_scs n (p + 1) a (sm_read M p)
def sm_scrub (bc bp : Nat) (M : zm_S) : Int32 × zm_S := if mm_r M = true then sm_scs (bc * bp) 0 0 M else (-2, M)
theorem zb_tf {b : Bool} (h : ¬ b = true) : b = false := by cases b with
  | false => rfl
  | true => exact absurd rfl h
theorem sm_rd31 (f e : Nat → Int32) (p : Nat) : (sm_rd f e p).1 < 2 ^ 31 := Nat.lt_of_le_of_lt (sm_rdM_le f e p) (by decide)
