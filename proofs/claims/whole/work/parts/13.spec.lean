/-! what the log's methods answer: functions that go as the loops go -/
abbrev zl_S : Type := (Nat → Bool) × (Nat → Bool) × (Nat → Int32) × (Nat → Int32) × (Nat → Int32) × Option Nat × Int32
def zl_w (L : zl_S) : Nat → Bool := L.1
def zl_m (L : zl_S) : Nat → Bool := L.2.1
def zl_s (L : zl_S) : Nat → Int32 := L.2.2.1
def zl_k (L : zl_S) : Nat → Int32 := L.2.2.2.1
def zl_d (L : zl_S) : Nat → Int32 := L.2.2.2.2.1
def zl_h (L : zl_S) : Option Nat := L.2.2.2.2.2.1
def zl_x (L : zl_S) : Int32 := L.2.2.2.2.2.2
/-- the sizes that there may be; a head is a block -/
def zb_ok (bc bp : Nat) : Prop := 3 ≤ bc ∧ bc ≤ 5 ∧ 2 ≤ bp ∧ bp ≤ 4
def zh_ok (bc : Nat) (h : Option Nat) : Prop := ∀ j, h = some j → j < bc
def sl_gaps (bp : Nat) (w : Nat → Bool) (b : Nat) : Nat → Nat → Nat → Nat
  | 0, _, a => a
  | n + 1, i, a => sl_gaps bp w b n (i + 1) (if w (b * bp + i) = true then a else a + 1)
def sl_gap (bp : Nat) (w : Nat → Bool) (b : Nat) : Nat := sl_gaps bp w b bp 0 0
def sl_free (bp : Nat) (w : Nat → Bool) (b : Nat) : Bool := decide (sl_gap bp w b = bp)
def sl_frs (bp : Nat) (w : Nat → Bool) : Nat → Nat → Nat → Nat
  | 0, _, a => a
  | n + 1, b, a => sl_frs bp w n (b + 1) (if sl_free bp w b = true then a + 1 else a)
def sl_lows (bp : Nat) (w : Nat → Bool) : Nat → Nat → Option Nat
  | 0, _ => none
  | n + 1, b => if sl_free bp w b = true then some b else sl_lows bp w n (b + 1)
def sl_hgs (bp : Nat) (w : Nat → Bool) (h : Nat) : Nat → Nat → Option Nat
  | 0, _ => none
  | n + 1, i => if w (h * bp + i) = true then sl_hgs bp w h n (i + 1) else some (h * bp + i)
def sl_hg (bp : Nat) (w : Nat → Bool) : Option Nat → Option Nat
  | none => none
  | some h => sl_hgs bp w h bp 0
def sl_mks (bp : Nat) (mk : Nat → Bool) (b : Nat) : Nat → Nat → Nat → Nat
  | 0, _, a => a
  | n + 1, i, a => sl_mks bp mk b n (i + 1) (if mk (b * bp + i) = true then a + 1 else a)
def sl_mk (bp : Nat) (mk : Nat → Bool) (b : Nat) : Nat := sl_mks bp mk b bp 0 0
def sl_in (bp : Nat) (p : Nat) : Option Nat → Bool
  | none => false
  | some h => decide (h * bp ≤ p) && decide (p < h * bp + bp)
def sl_rank (bp : Nat) (h : Option Nat) (s : Nat → Int32) (p : Nat) : Int64 := 2 * (s p).toInt64 + (bI (sl_in bp p h)).toInt64
def sl_better (bp : Nat) (h : Option Nat) (s : Nat → Int32) (p : Nat) : Option Nat → Bool
  | none => true
  | some q => decide (sl_rank bp h s q < sl_rank bp h s p)
def sl_lats (bp : Nat) (h : Option Nat) (w : Nat → Bool) (s k : Nat → Int32) (key : Int32) : Nat → Nat → Option Nat → Option Nat
  | 0, _, best => best
  | n + 1, p, best => sl_lats bp h w s k key n (p + 1) (if w p = true ∧ k p = key ∧ sl_better bp h s p best = true then some p else best)
def sl_lat (bc bp : Nat) (L : zl_S) (key : Int32) : Option Nat := sl_lats bp (zl_h L) (zl_w L) (zl_s L) (zl_k L) key (bc * bp) 0 none
def sl_heldO (d : Nat → Int32) : Option Nat → Bool
  | none => false
  | some p => decide (d p = 1)
def sl_held (bc bp : Nat) (L : zl_S) (key : Int32) : Bool := sl_heldO (zl_d L) (sl_lat bc bp L key)
def sl_hks (bc bp : Nat) (L : zl_S) : Nat → Nat → Nat → Nat
  | 0, _, a => a
  | n + 1, k, a => sl_hks bc bp L n (k + 1) (if sl_held bc bp L (nI k) = true then a + 1 else a)
def sl_oths (w : Nat → Bool) (k : Nat → Int32) (p : Nat) : Nat → Nat → Bool
  | 0, _ => false
  | n + 1, q => if q ≠ p ∧ w q = true ∧ k q = k p then true else sl_oths w k p n (q + 1)
def sl_need (bc bp : Nat) (L : zl_S) (p : Nat) : Bool := zl_w L p && (decide (sl_lat bc bp L (zl_k L p) = some p) && (decide (zl_d L p = 1) || sl_oths (zl_w L) (zl_k L) p (bc * bp) 0))
def sl_mns (bc bp : Nat) (L : zl_S) : Nat → Nat → (Nat → Bool) → (Nat → Bool)
  | 0, _, g => g
  | n + 1, p, g => sl_mns bc bp L n (p + 1) (ub g p (sl_need bc bp L p))
def sl_mn (bc bp : Nat) (L : zl_S) : Nat → Bool := sl_mns bc bp L (bc * bp) 0 (zl_m L)
def sl_open (bp : Nat) (w : Nat → Bool) (h : Option Nat) : Option Nat := if sl_hg bp w h = none then none else h
def sl_fewer (bp : Nat) (mk : Nat → Bool) (b : Nat) : Option Nat → Bool
  | none => true
  | some q => decide (sl_mk bp mk b < sl_mk bp mk q)
def sl_fms (bp : Nat) (w mk : Nat → Bool) (o : Option Nat) : Nat → Nat → Option Nat → Option Nat
  | 0, _, best => best
  | n + 1, b, best => sl_fms bp w mk o n (b + 1) (if o ≠ some b ∧ sl_free bp w b = false ∧ sl_fewer bp mk b best = true then some b else best)
def sl_fm (bc bp : Nat) (w mk : Nat → Bool) (h : Option Nat) : Option Nat := sl_fms bp w mk (sl_open bp w h) bc 0 none
def sl_fit (bp : Nat) (w mk : Nat → Bool) (h : Option Nat) : Option Nat → Option Nat
  | none => none
  | some b => if sl_mk bp mk b = bp then none else match sl_hg bp w h, h with
    | none, _ => some b
    | some _, none => some b
    | some _, some hd => if sl_mk bp mk b ≤ sl_gap bp w hd then some b else none
def sl_setM (L : zl_S) (mk : Nat → Bool) : zl_S := (zl_w L, mk, zl_s L, zl_k L, zl_d L, zl_h L, zl_x L)
def sl_setH (L : zl_S) (h : Option Nat) : zl_S := (zl_w L, zl_m L, zl_s L, zl_k L, zl_d L, h, zl_x L)
def sl_setX (L : zl_S) (x : Int32) : zl_S := (zl_w L, zl_m L, zl_s L, zl_k L, zl_d L, zl_h L, x)
def sl_setW (L : zl_S) (w : Nat → Bool) : zl_S := (w, zl_m L, zl_s L, zl_k L, zl_d L, zl_h L, zl_x L)
def sl_choose (bc bp : Nat) (L : zl_S) : Option Nat := sl_fit bp (zl_w L) (sl_mn bc bp L) (zl_h L) (sl_fm bc bp (zl_w L) (sl_mn bc bp L) (zl_h L))
def sl_fr (bc bp : Nat) (L : zl_S) : Nat := sl_frs bp (zl_w L) bc 0 0
def sl_openH (bc bp : Nat) (L : zl_S) (n : Nat) : zl_S := if sl_hg bp (zl_w L) (zl_h L) = none ∧ n ≤ sl_fr bc bp L then sl_setH L (sl_lows bp (zl_w L) bc 0) else L
def sl_fhs (bp : Nat) (w : Nat → Bool) : Nat → Option Nat → Option Nat
  | 0, h => h
  | n + 1, h => sl_fhs bp w n (if sl_free bp w n = false ∧ 0 < sl_gap bp w n then some n else h)
def sl_news (w : Nat → Bool) (s : Nat → Int32) : Nat → Nat → Option Nat → Option Nat
  | 0, _, best => best
  | n + 1, p, best => sl_news w s n (p + 1) (if w p = true ∧ (match best with | none => true | some q => decide (s q < s p)) = true then some p else best)
def sl_next (s : Nat → Int32) : Option Nat → Int32
  | none => 1
  | some q => s q + 1
def sl_fbs (bp b : Nat) : Nat → Nat → (Nat → Bool) → (Nat → Bool)
  | 0, _, w => w
  | n + 1, i, w => sl_fbs bp b n (i + 1) (ub w (b * bp + i) false)
def sl_fb (bp b : Nat) (w : Nat → Bool) : Nat → Bool := sl_fbs bp b bp 0 w
def sl_fas (bp : Nat) : Nat → Nat → (Nat → Bool) → (Nat → Bool)
  | 0, _, w => w
  | n + 1, b, w => sl_fas bp n (b + 1) (sl_fb bp b w)
def sl_know (L : zl_S) (p : Nat) (s k d : Int32) : zl_S := (ub (zl_w L) p true, zl_m L, upd (zl_s L) p s, upd (zl_k L) p k, upd (zl_d L) p d, zl_h L, zl_x L)
def sl_all (bc bp : Nat) (L : zl_S) : zl_S := (sl_fas bp bc 0 (zl_w L), zl_m L, zl_s L, zl_k L, zl_d L, none, 1)
/-! a page's words: bits, remainder, reading -/
def pbit (u : Nat → Int32) (i : Nat) : Bool := bt (u (i / 32)) (i % 32)
def ptn (u : Nat → Int32) (i : Nat) : Nat → Int32 := upd u (i / 32) (u (i / 32) ^^^ ((1 : Int32) <<< (nI (i % 32) &&& 31)))
def prem (u : Nat → Int32) : Nat → Nat → Nat → Nat
  | 0, _, a => a
  | n + 1, i, a => prem u n (i + 1) (if pbit u i = true then a ^^^ kt i else a)
def phash (a b c d : Int32) : Int32 := ((a * 31 + b) * 31 + c) * 31 + d
def pchk (a b c d : Int32) : Int32 := phash a b c d ^^^ ((phash a b c d).toUInt32 >>> ((15 : Int32).toUInt32 &&& Int32.toUInt32 31)).toInt32
def pkey (k : Int32) : Bool := decide (0 ≤ k) && decide (k < 16)
def prec (u : Nat → Int32) : Bool := decide (u 4 = pchk (u 0) (u 1) (u 2) (u 3)) && (pkey (u 1) && (decide (u 3 = 1) || decide (u 3 = 2)))
def pc (x : Int32) : Nat := bc_ps 8 x.toBitVec.toNat
def pzs (u : Nat → Int32) : Nat → Nat → Nat → Nat
  | 0, _, z => z
  | n + 1, k, z => pzs u n (k + 1) (z - pc (u k))
def pz (u : Nat → Int32) : Nat := pzs u 6 0 178
/-- by the class: condition and words -/
def pmend2 (u : Nat → Int32) : Option (Nat × Nat) → Nat × (Nat → Int32)
  | some (i, o) => (2, ptn (ptn u i) o)
  | none => (3, u)
def pmend1 (u : Nat → Int32) (r : Nat) : Option Nat → Nat × (Nat → Int32)
  | some i => (2, ptn u i)
  | none => pmend2 u (kp2 r 178 0)
def pmend (u : Nat → Int32) (r : Nat) : Nat × (Nat → Int32) := if r = 0 then (1, u) else pmend1 u r (kw r)
def psafe (g : Nat × (Nat → Int32)) (raw : Nat → Int32) : Nat × (Nat → Int32) := if (g.1 = 1 ∨ g.1 = 2) ∧ prec g.2 = false then (3, raw) else g
/-! the flash: cells, seen -/
abbrev zf_S : Type := (Nat → Int32) × (Nat → Int32)
def zf_c (F : zf_S) : Nat → Int32 := F.1
def zf_e (F : zf_S) : Nat → Int32 := F.2
def sf_raw (f e : Nat → Int32) (p : Nat) : Nat → Int32 := va_cpy f e (p * 6) 0 6
def sf_put (f e : Nat → Int32) (p : Nat) : Nat → Int32 := va_cpy e f 0 (p * 6) 6
def sf_rd2 (f : Nat → Int32) (p : Nat) (g : Nat × (Nat → Int32)) : Nat × (Nat → Int32) := psafe g (sf_raw f g.2 p)
def sf_rd1 (f u : Nat → Int32) (p : Nat) : Nat × (Nat → Int32) := if pz u ≤ 2 then (0, u) else sf_rd2 f p (pmend u (prem u 178 0 0))
/-- reading page p: condition, and what is seen then -/
def sf_rd (f e : Nat → Int32) (p : Nat) : Nat × (Nat → Int32) := sf_rd1 f (sf_raw f e p) p
def sf_fls (v : Int32) : Nat → Nat → (Nat → Int32) → (Nat → Int32)
  | 0, _, f => f
  | n + 1, i, f => sf_fls v n (i + 1) (upd f i v)
def sf_er (e : Nat → Int32) : Nat → Int32 := upd (sf_fls (-1) 6 0 e) 5 262143
def sf_eps (e : Nat → Int32) : Nat → Nat → (Nat → Int32) → (Nat → Int32)
  | 0, _, f => f
  | n + 1, p, f => sf_eps e n (p + 1) (sf_put f e p)
def sf_recd (e : Nat → Int32) (s k v d : Int32) : Nat → Int32 := upd (upd (upd (upd e 0 s) 1 k) 2 v) 3 d
def sf_rec4 (e : Nat → Int32) : Nat → Int32 := upd e 4 (pchk (e 0) (e 1) (e 2) (e 3))
def sf_rec5 (e : Nat → Int32) : Nat → Int32 := upd e 5 (nI (prem e 160 0 0))
def sf_rec (e : Nat → Int32) (s k v d : Int32) : Nat → Int32 := sf_rec5 (sf_rec4 (sf_recd e s k v d))
/-- a page that wants writing anew: does it, and what is seen then -/
def sf_fr (g : Nat × (Nat → Int32)) : Bool × (Nat → Int32) := if g.1 = 0 ∧ 0 < pz g.2 then (true, sf_er g.2) else (decide (g.1 = 2), g.2)
def sf_turn (f : Nat → Int32) (p i : Nat) : Nat → Int32 := upd f (p * 6 + i / 32) (f (p * 6 + i / 32) ^^^ ((1 : Int32) <<< (nI (i % 32) &&& 31)))
/-! the reference: words, written, wanted, seq, key, kind, head, next, ready, crashed, armed, acts, state, seen -/
abbrev zm_S : Type := (((Nat → Int32) × (Nat → Bool)) × ((Nat → Bool) × (Nat → Int32))) × ((((Nat → Int32) × (Nat → Int32)) × (Option Nat × Int32)) × (((Bool × Bool) × (Int32 × Int32)) × (Nat × (Nat → Int32))))
def zmk (f : Nat → Int32) (w q : Nat → Bool) (s k d : Nat → Int32) (h : Option Nat) (x : Int32) (r c : Bool) (a n : Int32) (t : Nat) (e : Nat → Int32) : zm_S := (((f, w), (q, s)), (((k, d), (h, x)), (((r, c), (a, n)), (t, e))))
def mm_f (M : zm_S) : Nat → Int32 := M.1.1.1
def mm_w (M : zm_S) : Nat → Bool := M.1.1.2
def mm_q (M : zm_S) : Nat → Bool := M.1.2.1
def mm_s (M : zm_S) : Nat → Int32 := M.1.2.2
def mm_k (M : zm_S) : Nat → Int32 := M.2.1.1.1
def mm_d (M : zm_S) : Nat → Int32 := M.2.1.1.2
def mm_h (M : zm_S) : Option Nat := M.2.1.2.1
def mm_x (M : zm_S) : Int32 := M.2.1.2.2
def mm_r (M : zm_S) : Bool := M.2.2.1.1.1
def mm_c (M : zm_S) : Bool := M.2.2.1.1.2
def mm_a (M : zm_S) : Int32 := M.2.2.1.2.1
def mm_n (M : zm_S) : Int32 := M.2.2.1.2.2
def mm_t (M : zm_S) : Nat := M.2.2.2.1
def mm_e (M : zm_S) : Nat → Int32 := M.2.2.2.2
def sm_ers (p : Nat) : Nat → Nat → (Nat → Int32) → (Nat → Int32)
  | 0, _, f => f
  | n + 1, k, f => sm_ers p n (k + 1) (upd f (6 * p + k) (-1))
def sm_er (p : Nat) (f : Nat → Int32) : Nat → Int32 := upd (sm_ers p 5 0 f) (6 * p + 5) 262143
def sm_bgf : Nat → Nat → (Nat → Int32) → (Nat → Int32)
  | 0, _, f => f
  | n + 1, p, f => sm_bgf n (p + 1) (sm_er p f)
def sm_bgw : Nat → Nat → (Nat → Bool) → (Nat → Bool)
  | 0, _, w => w
  | n + 1, p, w => sm_bgw n (p + 1) (ub w p false)
def sm_begin (M : zm_S) : zm_S := (zmk (sm_bgf 20 0 (mm_f M)) (sm_bgw 20 0 (mm_w M)) (mm_q M) (mm_s M) (mm_k M) (mm_d M) none 1 true false (-1) (mm_n M) (mm_t M) (mm_e M))
def sm_bit (f : Nat → Int32) (p i : Nat) : Bool := bt (f (6 * p + i / 32)) (i % 32)
def sm_zs (f : Nat → Int32) (p : Nat) : Nat → Nat → Nat → Nat
  | 0, _, z => z
  | n + 1, i, z => sm_zs f p n (i + 1) (if sm_bit f p i = true then z else z + 1)
def sm_rs (f : Nat → Int32) (p : Nat) : Nat → Nat → Nat → Nat
  | 0, _, r => r
  | n + 1, i, r => sm_rs f p n (i + 1) (if sm_bit f p i = true then r ^^^ kt i else r)
def sm_cps (f : Nat → Int32) (p : Nat) : Nat → Nat → (Nat → Int32) → (Nat → Int32)
  | 0, _, e => e
  | n + 1, k, e => sm_cps f p n (k + 1) (upd e k (f (6 * p + k)))
def sm_mend2 (e : Nat → Int32) : Option (Nat × Nat) → Bool × (Nat → Int32)
  | some (i, j) => (true, ptn (ptn e i) j)
  | none => (false, e)
def sm_mend1 (e : Nat → Int32) (r : Nat) : Option Nat → Bool × (Nat → Int32)
  | some i => (true, ptn e i)
  | none => sm_mend2 e (km2 r 178 0)
def sm_mend (e : Nat → Int32) (r : Nat) : Bool × (Nat → Int32) := sm_mend1 e r (km1 r 178 0)
def sm_good (e : Nat → Int32) (r : Nat) : Bool × (Nat → Int32) := if r = 0 then (true, e) else sm_mend e r
def sm_rec (u : Nat → Int32) : Bool := decide (u 4 = pchk (u 0) (u 1) (u 2) (u 3)) && (decide (0 ≤ u 1) && (decide (u 1 ≤ 15) && (decide (u 3 = 1) || decide (u 3 = 2))))
def sm_cond (r : Nat) (g : Bool × (Nat → Int32)) : Nat × (Nat → Int32) := (if g.1 = true ∧ sm_rec g.2 = true then (if r = 0 then 1 else 2) else 3, g.2)
def sm_rd1 (e : Nat → Int32) (z r : Nat) : Nat × (Nat → Int32) := if z ≤ 2 then (0, e) else sm_cond r (sm_good e r)
def sm_rd (f e : Nat → Int32) (p : Nat) : Nat × (Nat → Int32) := sm_rd1 (sm_cps f p 6 0 e) (sm_zs f p 178 0 0) (sm_rs f p 178 0 0)
def sm_setR (M : zm_S) (g : Nat × (Nat → Int32)) : zm_S := (zmk (mm_f M) (mm_w M) (mm_q M) (mm_s M) (mm_k M) (mm_d M) (mm_h M) (mm_x M) (mm_r M) (mm_c M) (mm_a M) (mm_n M) g.1 g.2)
def sm_read (M : zm_S) (p : Nat) : zm_S := sm_setR M (sm_rd (mm_f M) (mm_e M) p)
def sm_isH (bp : Nat) (h : Option Nat) (a : Nat) : Bool := decide (h = some (a / bp))
def sm_bef (bp : Nat) (h : Option Nat) (s : Nat → Int32) (a b : Nat) : Bool := if s a = s b then (if sm_isH bp h a = sm_isH bp h b then decide (a < b) else sm_isH bp h a) else decide (s b < s a)
def sm_befO (bp : Nat) (h : Option Nat) (s : Nat → Int32) (p : Nat) : Option Nat → Bool
  | none => true
  | some q => sm_bef bp h s p q
def sm_lats (bp : Nat) (h : Option Nat) (w : Nat → Bool) (s k : Nat → Int32) (key : Int32) : Nat → Nat → Option Nat → Option Nat
  | 0, _, best => best
  | n + 1, p, best => sm_lats bp h w s k key n (p + 1) (if w p = true ∧ k p = key ∧ sm_befO bp h s p best = true then some p else best)
def sm_lat (bc bp : Nat) (M : zm_S) (key : Int32) : Option Nat := sm_lats bp (mm_h M) (mm_w M) (mm_s M) (mm_k M) key (bc * bp) 0 none
def sm_held (bc bp : Nat) (M : zm_S) (key : Int32) : Bool := sl_heldO (mm_d M) (sm_lat bc bp M key)
def sm_oths (w : Nat → Bool) (k : Nat → Int32) (p : Nat) : Nat → Nat → Bool → Bool
  | 0, _, o => o
  | n + 1, q, o => sm_oths w k p n (q + 1) (if o = true ∨ (q ≠ p ∧ w q = true ∧ k q = k p) then true else false)
def sm_need (bc bp : Nat) (M : zm_S) (p : Nat) : Bool := if mm_w M p = true ∧ sm_lat bc bp M (mm_k M p) = some p then (decide (mm_d M p = 1) || sm_oths (mm_w M) (mm_k M) p (bc * bp) 0 false) else false
def sm_nds (bc bp : Nat) (M : zm_S) : Nat → Nat → Nat → Nat
  | 0, _, a => a
  | n + 1, p, a => sm_nds bc bp M n (p + 1) (if sm_need bc bp M p = true then a + 1 else a)
def sm_nd (bc bp : Nat) (M : zm_S) (b : Nat) : Nat := sm_nds bc bp M bp (b * bp) 0
def sm_wrs (w : Nat → Bool) : Nat → Nat → Nat → Nat
  | 0, _, a => a
  | n + 1, p, a => sm_wrs w n (p + 1) (if w p = true then a + 1 else a)
def sm_wr (bp : Nat) (w : Nat → Bool) (b : Nat) : Nat := sm_wrs w bp (b * bp) 0
def sm_lows (bp : Nat) (w : Nat → Bool) : Nat → Option Nat → Option Nat
  | 0, best => best
  | n + 1, best => sm_lows bp w n (if sm_wr bp w n = 0 then some n else best)
def sm_low (bc bp : Nat) (w : Nat → Bool) : Option Nat := sm_lows bp w bc none
def sm_frs (bp : Nat) (w : Nat → Bool) : Nat → Nat → Nat → Nat
  | 0, _, a => a
  | n + 1, b, a => sm_frs bp w n (b + 1) (if sm_wr bp w b = 0 then a + 1 else a)
def sm_fr (bc bp : Nat) (w : Nat → Bool) : Nat := sm_frs bp w bc 0 0
def sm_hl (bp : Nat) (w : Nat → Bool) : Option Nat → Bool
  | none => true
  | some h => decide (sm_wr bp w h = bp)
/-- the first page from p on, of n, that is not written -/
def sm_pls (w : Nat → Bool) : Nat → Nat → Nat
  | 0, p => p
  | n + 1, p => if w p = true then sm_pls w n (p + 1) else p
def sm_pl (bp : Nat) (w : Nat → Bool) (h : Nat) : Nat := sm_pls w bp (h * bp)
def sm_act (M : zm_S) : Bool × zm_S := if mm_a M = 0 then (false, (zmk (mm_f M) (mm_w M) (mm_q M) (mm_s M) (mm_k M) (mm_d M) (mm_h M) (mm_x M) false true (mm_a M) (mm_n M) (mm_t M) (mm_e M)))
  else (true, (zmk (mm_f M) (mm_w M) (mm_q M) (mm_s M) (mm_k M) (mm_d M) (mm_h M) (mm_x M) (mm_r M) (mm_c M) ((if 0 < mm_a M then mm_a M - 1 else mm_a M)) (mm_n M + 1) (mm_t M) (mm_e M)))
def sm_chs (bc bp : Nat) (M : zm_S) (o : Bool) : Nat → Nat → Option Nat → Nat → Option Nat × Nat
  | 0, _, best, least => (best, least)
  | n + 1, b, best, least => if 0 < sm_wr bp (mm_w M) b ∧ (mm_h M ≠ some b ∨ o = true) ∧ (best = none ∨ sm_nd bc bp M b < least) then sm_chs bc bp M o n (b + 1) (some b) (sm_nd bc bp M b) else sm_chs bc bp M o n (b + 1) best least
def sm_ch2 (bc bp : Nat) (M : zm_S) (o : Bool) : Option Nat × Nat → Option Nat
  | (none, _) => none
  | (some b, least) => if least = bp ∨ (o = true ∧ sm_fr bc bp (mm_w M) = 0) then none else if o = true then some b else match mm_h M with
    | none => some b
    | some h => if bp - sm_wr bp (mm_w M) h < least then none else some b
def sm_choose (bc bp : Nat) (M : zm_S) : Option Nat := sm_ch2 bc bp M (sm_hl bp (mm_w M) (mm_h M)) (sm_chs bc bp M (sm_hl bp (mm_w M) (mm_h M)) bc 0 none 0)
def sm_wls (e : Nat → Int32) (to : Nat) : Nat → Nat → (Nat → Int32) → (Nat → Int32)
  | 0, _, f => f
  | n + 1, k, f => sm_wls e to n (k + 1) (upd f (6 * to + k) (e k))
def sm_wcs (fr to : Nat) : Nat → Nat → (Nat → Int32) → (Nat → Int32)
  | 0, _, f => f
  | n + 1, k, f => sm_wcs fr to n (k + 1) (upd f (6 * to + k) (f (6 * fr + k)))
def sm_cpF (f e : Nat → Int32) (t p to : Nat) : Nat → Int32 := if t = 3 then sm_wcs p to 6 0 (sm_wls e to 6 0 f) else sm_wls e to 6 0 f
def sm_cp1 (M : zm_S) (p to : Nat) : zm_S := (zmk (sm_cpF (mm_f M) (mm_e M) (mm_t M) p to) (ub (mm_w M) to true) (mm_q M) (upd (mm_s M) to (mm_s M p)) (upd (mm_k M) to (mm_k M p)) (upd (mm_d M) to (mm_d M p)) (mm_h M) (mm_x M) (mm_r M) (mm_c M) (mm_a M) (mm_n M) (mm_t M) (mm_e M))
def sm_plO (bp : Nat) (w : Nat → Bool) : Option Nat → Nat
  | none => 0
  | some h => sm_pl bp w h
def sm_copy2 (bp p : Nat) : Bool × zm_S → Bool × zm_S
  | (false, M) => (false, M)
  | (true, M) => (true, sm_cp1 (sm_read M p) p (sm_plO bp (mm_w M) (mm_h M)))
def sm_copy (bp : Nat) (M : zm_S) (p : Nat) : Bool × zm_S := sm_copy2 bp p (sm_act M)
def sm_cls (bp : Nat) : Nat → Nat → zm_S → Bool × zm_S
  | 0, _, M => (true, M)
  | n + 1, p, M => if mm_q M p = true then (if (sm_copy bp M p).1 = true then sm_cls bp n (p + 1) (sm_copy bp M p).2 else (false, (sm_copy bp M p).2)) else sm_cls bp n (p + 1) M
def sm_wts (bc bp : Nat) (M : zm_S) (b : Nat) : Nat → Nat → (Nat → Bool) → (Nat → Bool)
  | 0, _, q => q
  | n + 1, p, q => sm_wts bc bp M b n (p + 1) (ub q p (decide (p / bp = b) && sm_need bc bp M p))
def sm_setQ (M : zm_S) (q : Nat → Bool) : zm_S := (zmk (mm_f M) (mm_w M) q (mm_s M) (mm_k M) (mm_d M) (mm_h M) (mm_x M) (mm_r M) (mm_c M) (mm_a M) (mm_n M) (mm_t M) (mm_e M))
def sm_setH (M : zm_S) (h : Option Nat) : zm_S := (zmk (mm_f M) (mm_w M) (mm_q M) (mm_s M) (mm_k M) (mm_d M) h (mm_x M) (mm_r M) (mm_c M) (mm_a M) (mm_n M) (mm_t M) (mm_e M))
def sm_wipe (bp b : Nat) (M : zm_S) : zm_S := (zmk (sm_bgf bp (b * bp) (mm_f M)) (sm_bgw bp (b * bp) (mm_w M)) (mm_q M) (mm_s M) (mm_k M) (mm_d M) (mm_h M) (mm_x M) (mm_r M) (mm_c M) (mm_a M) (mm_n M) (mm_t M) (mm_e M))
def sm_cl3 (bp b : Nat) : Bool × zm_S → Bool × zm_S
  | (false, M) => (false, M)
  | (true, M) => (true, sm_wipe bp b M)
def sm_cl2 (bp b : Nat) : Bool × zm_S → Bool × zm_S
  | (false, M) => (false, M)
  | (true, M) => sm_cl3 bp b (sm_act M)
def sm_cl1 (bc bp : Nat) (M : zm_S) : zm_S := if sm_hl bp (mm_w M) (mm_h M) = true then sm_setH M (sm_low bc bp (mm_w M)) else M
def sm_clean (bc bp : Nat) (M : zm_S) (b : Nat) : Bool × zm_S := sm_cl2 bp b (sm_cls bp (bc * bp) 0 (sm_cl1 bc bp (sm_setQ M (sm_wts bc bp M b (bc * bp) 0 (mm_q M)))))
def sm_pg5 (f : Nat → Int32) (p : Nat) (x k v d : Int32) : Nat → Int32 := upd (upd (upd (upd (upd (upd f (6 * p) x) (6 * p + 1) k) (6 * p + 2) v) (6 * p + 3) d) (6 * p + 4) (pchk x k v d)) (6 * p + 5) 0
def sm_pg (f : Nat → Int32) (p : Nat) (x k v d : Int32) : Nat → Int32 := upd (sm_pg5 f p x k v d) (6 * p + 5) (nI (sm_rs (sm_pg5 f p x k v d) p 160 0 0))
def sm_app3 (M : zm_S) (p : Nat) (k v d : Int32) : zm_S := (zmk (sm_pg (mm_f M) p (mm_x M) k v d) (ub (mm_w M) p true) (mm_q M) (upd (mm_s M) p (mm_x M)) (upd (mm_k M) p k) (upd (mm_d M) p d) (mm_h M) (mm_x M + 1) (mm_r M) (mm_c M) (mm_a M) (mm_n M) (mm_t M) (mm_e M))
def sm_app2 (bp : Nat) (k v d : Int32) : Bool × zm_S → Int32 × zm_S
  | (false, M) => (-2, M)
  | (true, M) => (0, sm_app3 M (sm_plO bp (mm_w M) (mm_h M)) k v d)
def sm_app1 (bp : Nat) (k v d : Int32) : Bool × zm_S → Int32 × zm_S
  | (false, M) => (-2, M)
  | (true, M) => sm_app2 bp k v d (sm_act M)
def sm_app0 (bc bp : Nat) (M : zm_S) (k v d : Int32) : Option Nat → Int32 × zm_S
  | none => (-1, M)
  | some b => sm_app1 bp k v d (sm_clean bc bp M b)
def sm_app (bc bp : Nat) (M : zm_S) (k v d : Int32) : Int32 × zm_S := if sm_hl bp (mm_w M) (mm_h M) = true then (if 1 < sm_fr bc bp (mm_w M) then sm_app2 bp k v d (sm_act (sm_setH M (sm_low bc bp (mm_w M)))) else sm_app0 bc bp M k v d (sm_choose bc bp M)) else sm_app2 bp k v d (sm_act M)
/-! the store: flash, log, ready, failed, armed, acts left, acts done -/
abbrev zs_S : Type := zf_S × zl_S × Bool × Bool × Bool × Int32 × Int32
def ss_F (S : zs_S) : zf_S := S.1
def ss_L (S : zs_S) : zl_S := S.2.1
def ss_r (S : zs_S) : Bool := S.2.2.1
def ss_f (S : zs_S) : Bool := S.2.2.2.1
def ss_a (S : zs_S) : Bool := S.2.2.2.2.1
def ss_n (S : zs_S) : Int32 := S.2.2.2.2.2.1
def ss_d (S : zs_S) : Int32 := S.2.2.2.2.2.2
def ss_setF (S : zs_S) (F : zf_S) : zs_S := (F, ss_L S, ss_r S, ss_f S, ss_a S, ss_n S, ss_d S)
def ss_setL (S : zs_S) (L : zl_S) : zs_S := (ss_F S, L, ss_r S, ss_f S, ss_a S, ss_n S, ss_d S)
def ss_setr (S : zs_S) (r : Bool) : zs_S := (ss_F S, ss_L S, r, ss_f S, ss_a S, ss_n S, ss_d S)
def ss_may (S : zs_S) : Bool × zs_S := if ss_a S = true ∧ ss_n S = 0 then (false, (ss_F S, ss_L S, false, true, ss_a S, ss_n S, ss_d S))
  else (true, (ss_F S, ss_L S, ss_r S, ss_f S, ss_a S, (if ss_a S = true then ss_n S - 1 else ss_n S), ss_d S + 1))
def ss_up (S : zs_S) : zs_S := (ss_F S, ss_L S, ss_r S, false, false, 0, ss_d S)
def ss_wr2 (p : Nat) (s k d : Int32) : Bool × zs_S → Int32 × zs_S
  | (false, S) => (-2, S)
  | (true, S) => (0, ss_setL (ss_setF S (sf_put (zf_c (ss_F S)) (zf_e (ss_F S)) p, zf_e (ss_F S))) (sl_know (ss_L S) p s k d))
def ss_wr1 (S : zs_S) (s k d : Int32) : Option Nat → Int32 × zs_S
  | none => (-1, S)
  | some p => ss_wr2 p s k d (ss_may S)
def ss_wr (bp : Nat) (S : zs_S) (s k d : Int32) : Int32 × zs_S := ss_wr1 S s k d (sl_hg bp (zl_w (ss_L S)) (zl_h (ss_L S)))
def ss_rd (S : zs_S) (p : Nat) : Nat × zs_S := ((sf_rd (zf_c (ss_F S)) (zf_e (ss_F S)) p).1, ss_setF S (zf_c (ss_F S), (sf_rd (zf_c (ss_F S)) (zf_e (ss_F S)) p).2))
def ss_cls (bp : Nat) : Nat → Nat → zs_S → Int32 × zs_S
  | 0, _, S => (0, S)
  | n + 1, p, S => if zl_m (ss_L S) p = true then
      (match ss_wr bp (ss_rd S p).2 (zl_s (ss_L S) p) (zl_k (ss_L S) p) (zl_d (ss_L S) p) with
        | (o, T) => if o = 0 then ss_cls bp n (p + 1) T else (o, T))
    else ss_cls bp n (p + 1) S
def ss_cl4 (bp b : Nat) : Bool × zs_S → Int32 × zs_S
  | (false, S) => (-2, S)
  | (true, S) => (0, ss_setL (ss_setF S (sf_eps (sf_er (zf_e (ss_F S))) bp (b * bp) (zf_c (ss_F S)), sf_er (zf_e (ss_F S)))) (sl_setW (ss_L S) (sl_fb bp b (zl_w (ss_L S)))))
def ss_cl3 (bp b : Nat) (g : Int32 × zs_S) : Int32 × zs_S := if g.1 = 0 then ss_cl4 bp b (ss_may g.2) else g
def ss_cl2 (bp : Nat) (S : zs_S) (b : Nat) : Int32 × zs_S := if sl_hg bp (zl_w (ss_L S)) (zl_h (ss_L S)) = none then (-1, S) else ss_cl3 bp b (ss_cls bp bp (b * bp) S)
def ss_cl1 (bc bp : Nat) (S : zs_S) : Option Nat → Int32 × zs_S
  | none => (-1, S)
  | some b => ss_cl2 bp (ss_setL S (sl_openH bc bp (ss_L S) 1)) b
def ss_clean (bc bp : Nat) (S : zs_S) : Int32 × zs_S := ss_cl1 bc bp (ss_setL S (sl_setM (ss_L S) (sl_mn bc bp (ss_L S)))) (sl_choose bc bp (ss_L S))
def ss_ap2 (g : Int32 × zs_S) : Int32 × zs_S := if g.1 = 0 then (0, ss_setL g.2 (sl_setX (ss_L g.2) (zl_x (ss_L g.2) + 1))) else g
def ss_ap1 (bp : Nat) (k v d : Int32) (g : Int32 × zs_S) : Int32 × zs_S := if g.1 = 0 then ss_ap2 (ss_wr bp (ss_setF g.2 (zf_c (ss_F g.2), sf_rec (zf_e (ss_F g.2)) (zl_x (ss_L g.2)) k v d)) (zl_x (ss_L g.2)) k d) else g
def ss_ap0 (bc bp : Nat) (S : zs_S) : Int32 × zs_S := if sl_hg bp (zl_w (ss_L S)) (zl_h (ss_L S)) = none then ss_clean bc bp S else (0, S)
def ss_app (bc bp : Nat) (S : zs_S) (k v d : Int32) : Int32 × zs_S := ss_ap1 bp k v d (ss_ap0 bc bp (ss_setL S (sl_openH bc bp (ss_L S) 2)))
def ss_fps (n0 : Nat) : Nat → Nat → zs_S → Bool × zs_S
  | 0, _, S => (true, S)
  | n + 1, p, S => if (ss_rd S p).1 = 3 then (false, (ss_rd S p).2) else if (ss_rd S p).1 = 0 then ss_fps n0 n (p + 1) (ss_rd S p).2 else ss_fps n0 n (p + 1) (ss_setL (ss_rd S p).2 (sl_know (ss_L S) p (zf_e (ss_F (ss_rd S p).2) 0) (zf_e (ss_F (ss_rd S p).2) 1) (zf_e (ss_F (ss_rd S p).2) 3)))
