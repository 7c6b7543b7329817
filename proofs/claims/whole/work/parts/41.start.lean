/-! the states that the calls leave are in order -/
set_option maxHeartbeats 400000 in
theorem WF_st_strike {S : Mm} (w : WF S) {x y z u v : Int32} : WF (st_strike S x y z u v) := by
  unfold st_strike
  by_cases c : stC x y z u v
  · rw [cI_t c]
    exact WF_strike w (mtd_isS c.2.2)
  · rw [cI_f c]; exact w

set_option maxHeartbeats 400000 in
theorem WF_st_tog {S : Mm} (w : WF S) {x y z u : Int32} : WF (st_tog S x y z u) := by
  unfold st_tog
  by_cases c : toC x y z u
  · rw [cI_t c]
    exact WF_tog w c.2
  · rw [cI_f c]; exact w

set_option maxHeartbeats 400000 in
theorem WF_st_use {S : Mm} (w : WF S) {x y z : Int32} : WF (st_use S x y z) := by
  unfold st_use
  by_cases c : usC x y z
  · rw [cI_t c]
    obtain ⟨⟨⟨l, hl, rfl⟩, ⟨f, hf, rfl⟩⟩, ⟨k, hk, rfl⟩⟩ := c
    rw [nv_nI (by omega), nv_nI (by omega)]
    exact WF_use w hl hk hf
  · rw [cI_f c]; exact w

set_option maxHeartbeats 400000 in
theorem WF_st_trim {S : Mm} (w : WF S) {x : Int32} : WF (st_trim S x) := by
  unfold st_trim
  by_cases c : iR x (tpd S + 1)
  · rw [cI_t c]
    obtain ⟨k, hk, rfl⟩ := c
    exact WF_trim w (by have := w.tp.2; omega)
  · rw [cI_f c]; exact w

set_option maxHeartbeats 400000 in
theorem WF_st_part {S : Mm} (w : WF S) {x t l : Int32} : WF (st_part S x t l) := by
  unfold st_part
  by_cases c : paC x t l ∧ ¬ pn S = 16
  · rw [cI_t c]
    obtain ⟨⟨⟨c0, hc0, rfl⟩, ⟨h1, h2⟩, hl⟩, hn⟩ := c
    obtain ⟨t0, ht0, rfl⟩ := nI_of (Int32.not_lt.mpr (Int32.le_trans (by decide : (0 : Int32) ≤ nI 1) h1))
    have a := (nI_leI (by decide) ht0).mp h1
    have b := (nI_leI ht0 (by decide)).mp h2
    exact WF_part w (by have := w.p.2; omega) hc0 ⟨a, b⟩ (lvM_or hl)
  · rw [cI_f c]; exact w

set_option maxHeartbeats 400000 in
theorem WF_st_signal {S : Mm} (w : WF S) {r l : Int32} : WF (st_signal S r l) := by
  unfold st_signal
  by_cases c : siC r l ∧ ¬ siF S r l
  · rw [cI_t c]
    refine WF_signal w (lvM_or c.1.2) ?_
    rintro ⟨e1, e2, e3⟩
    refine c.2 ⟨e1, ?_, e3⟩
    intro z
    apply e2
    unfold lvM
    rw [if_pos z]; decide
  · rw [cI_f c]; exact w

set_option maxHeartbeats 400000 in
theorem WF_st_sheet {S : Mm} (w : WF S) {x n : Int32} : WF (st_sheet S x n) := by
  unfold st_sheet
  by_cases c : iR x 2 ∧ iR n 17
  · rw [cI_t c]
    obtain ⟨⟨s, hs, rfl⟩, ⟨k, hk, rfl⟩⟩ := c
    rw [nv_nI (by omega), nv_nI (by omega)]
    exact WF_sheet w hs (by omega)
  · rw [cI_f c]; exact w

set_option maxHeartbeats 400000 in
theorem WF_st_mark {S : Mm} (w : WF S) {x p v : Int32} : WF (st_mark S x p v) := by
  unfold st_mark
  by_cases c : iR x 2 ∧ ¬ S 165 (nv x) = -1 ∧ iR p (plc S (nv x))
  · rw [cI_t c]
    refine WF_mark w ?_
    have := pk_vb v
    rw [vp_nar_byte] at this
    exact this
  · rw [cI_f c]; exact w

set_option maxHeartbeats 400000 in
theorem WF_st_copy {S : Mm} (w : WF S) {x p y q n : Int32} : WF (st_copy S x p y q n) := by
  unfold st_copy
  by_cases c : coC S x p y q n
  · rw [cI_t c]
    obtain ⟨⟨⟨x, hx, rfl⟩, ⟨y, hy, rfl⟩⟩, ⟨h1, h2⟩, ⟨a, b, rfl, rfl, hab⟩, _⟩ := c
    rw [nv_nI (by omega)] at h1 hab
    have hp := (plc_is w hx h1).2
    rw [nv_nI (k := x) (by omega), nv_nI (k := a) (by omega), nv_nI (k := b) (by omega)]
    exact WF_copy w (by omega)
  · rw [cI_f c]; exact w

set_option maxHeartbeats 400000 in
theorem WF_st_lay {S : Mm} (w : WF S) {x y z s : Int32} : WF (st_lay S x y z s) := by
  unfold st_lay
  by_cases c : laC x y z s ∧ ¬ S 165 (nv s) = -1 ∧ ¬ 2 ^ (nv x + 1) < plc S (nv s)
  · rw [cI_t c]
    exact WF_lay w
  · rw [cI_f c]; exact w

set_option maxHeartbeats 400000 in
theorem WF_st_feed {S : Mm} (w : WF S) {a b c0 : Int32} : WF (st_feed S a b c0) := by
  unfold st_feed
  by_cases c : tpd S + 12 ≤ 64
  · rw [cI_t c]
    have w1 := WF_pshs (x := a) 4 S w (by omega)
    have w2 := WF_pshs (x := b) 4 _ w1.1 (by omega)
    exact (WF_pshs (x := c0) 4 _ w2.1 (by omega)).1
  · rw [cI_f c]; exact w

set_option maxHeartbeats 400000 in
theorem WF_st_tune {S : Mm} (w : WF S) {x : Int32} : WF (st_tune S x) := by
  unfold st_tune
  by_cases c : iR x 4 ∧ tuC S
  · rw [cI_t c]
    obtain ⟨⟨c0, hc0, rfl⟩, h1, h2, h3⟩ := c
    rw [nv_nI (by omega)]
    exact WF_tune w hc0 h3 h2 qok_rT
  · rw [cI_f c]; exact WF_trim w (q := 0) (by omega)
/-! the start -/
def RMd : List (Nat → Int32) := [z_, flr z_ 4 (nI 8), flr z_ 128 (-1), flr z_ 128 (-1), flr z_ 768 (-9), z_, z_, z_, z_, z_, flr z_ 144 (-1), z_, ua_ (ua_ z_ 0 (-1)) 1 (-1), z_, z_, z_, z_, z_]
set_option maxHeartbeats 400000 in
theorem flr_at {row : Nat → Int32} {n k : Nat} {v : Int32} (h : k < n) : flr row n v k = v := if_pos h
set_option maxHeartbeats 400000 in
theorem ln_neg {R : Nat → Int32} : ∀ n, (∀ i, i < n → R i = -1) → ln R n = -1
  | 0, _ => rfl
  | n + 1, h => by
    show (if R n < 0 then ln R n else R n) = -1
    rw [h n (by omega), if_pos (by decide)]
    exact ln_neg n (fun i hi => h i (by omega))
