/-! the class: keys, sums, the walk through a piece -/
def su (f : Nat → Nat) : Nat → Nat
  | 0 => 0
  | n + 1 => su f n + f n
set_option maxHeartbeats 400000 in
theorem su_congr {f g : Nat → Nat} : ∀ n, (∀ i, i < n → f i = g i) → su f n = su g n
  | 0, _ => rfl
  | n + 1, h => by
    show su f n + f n = su g n + g n
    rw [su_congr n (fun i hi => h i (by omega)), h n (by omega)]
set_option maxHeartbeats 400000 in
theorem su_le {f : Nat → Nat} {B : Nat} : ∀ n, (∀ i, i < n → f i ≤ B) → su f n ≤ n * B
  | 0, _ => by simp [su]
  | n + 1, h => by
    have h1 := su_le n (fun i hi => h i (by omega))
    have h2 := h n (by omega)
    show su f n + f n ≤ (n + 1) * B
    rw [Nat.succ_mul]; omega
set_option maxHeartbeats 400000 in
theorem su_mono {f : Nat → Nat} {a : Nat} : ∀ n, a ≤ n → su f a ≤ su f n
  | 0, h => by rw [show a = 0 by omega]; exact Nat.le_refl _
  | n + 1, h => by
    by_cases e : a = n + 1
    · rw [e]; exact Nat.le_refl _
    · have := su_mono (f := f) (a := a) n (by omega)
      show su f a ≤ su f n + f n
      omega
def kA (S : Mm) (c l g b s : Nat) : Int32 := if S 157 (ix l (us S l (turn S c b)) g s) = -9 then NONE_ else ky (tone S c b) (S 157 (ix l (us S l (turn S c b)) g s))
def kH (S : Mm) (c l g b : Nat) : Nat → Int32
  | 0 => NONE_
  | s + 1 => if kA S c l g b s = NONE_ then kH S c l g b s else kA S c l g b s
def ov (S : Mm) (p l : Nat) : Nat := if S 162 p < 0 then l else nv (S 162 p)
def sg (S : Mm) (r l : Nat) : Nat := if S 163 r < 0 then l else nv (S 163 r)
/-- part, its first round, level and tick at a round's beginning -/
def Wk (S : Mm) : Nat → Nat × Nat × Nat × Nat
  | 0 => (0, 0, ov S 0 0, 0)
  | r + 1 => if r + 1 = (Wk S r).2.1 + pT S (Wk S r).1 then ((Wk S r).1 + 1, r + 1, ov S ((Wk S r).1 + 1) (sg S r (Wk S r).2.2.1), (Wk S r).2.2.2 + bt S (pC S (Wk S r).1) * (32 * 2 ^ (Wk S r).2.2.1))
    else ((Wk S r).1, (Wk S r).2.1, sg S r (Wk S r).2.2.1, (Wk S r).2.2.2 + bt S (pC S (Wk S r).1) * (32 * 2 ^ (Wk S r).2.2.1))
def wp (S : Mm) (r : Nat) : Nat := (Wk S r).1
def wf (S : Mm) (r : Nat) : Nat := (Wk S r).2.1
def wl (S : Mm) (r : Nat) : Nat := (Wk S r).2.2.1
def wt (S : Mm) (r : Nat) : Nat := (Wk S r).2.2.2
/-- level and tick as a round's end leaves them -/
def plv (S : Mm) : Nat → Nat
  | 0 => 0
  | r + 1 => sg S r (wl S r)
def ptk (S : Mm) : Nat → Nat
  | 0 => 0
  | r + 1 => wt S r + bt S (pC S (wp S r)) * (32 * 2 ^ wl S r)
def rs (S : Mm) (p : Nat) : Nat := su (pT S) p
def tot (S : Mm) : Nat := rs S (pn S)
set_option maxHeartbeats 400000 in
theorem wk_adv {S : Mm} {r : Nat} (h : r + 1 = wf S r + pT S (wp S r)) : wp S (r + 1) = wp S r + 1 ∧ wf S (r + 1) = r + 1 ∧ wl S (r + 1) = ov S (wp S r + 1) (plv S (r + 1)) ∧ wt S (r + 1) = ptk S (r + 1) := by
  have e : Wk S (r + 1) = _ := if_pos h
  unfold wp wf wl wt
  rw [e]
  exact ⟨rfl, rfl, rfl, rfl⟩
set_option maxHeartbeats 400000 in
theorem wk_sta {S : Mm} {r : Nat} (h : ¬ r + 1 = wf S r + pT S (wp S r)) : wp S (r + 1) = wp S r ∧ wf S (r + 1) = wf S r ∧ wl S (r + 1) = plv S (r + 1) ∧ wt S (r + 1) = ptk S (r + 1) := by
  have e : Wk S (r + 1) = _ := if_neg h
  unfold wp wf wl wt
  rw [e]
  exact ⟨rfl, rfl, rfl, rfl⟩
set_option maxHeartbeats 400000 in
theorem wt_is {S : Mm} : ∀ r, wt S r = ptk S r
  | 0 => rfl
  | r + 1 => by
    by_cases h : r + 1 = wf S r + pT S (wp S r)
    · exact (wk_adv h).2.2.2
    · exact (wk_sta h).2.2.2
set_option maxHeartbeats 400000 in
theorem rs_s {S : Mm} {p : Nat} : rs S (p + 1) = rs S p + pT S p := rfl
set_option maxHeartbeats 400000 in
theorem wk_at {S : Mm} (w : WF S) : ∀ p, p < pn S → ∀ k, k < pT S p → wp S (rs S p + k) = p ∧ wf S (rs S p + k) = rs S p ∧ wl S (rs S p + k) = (if k = 0 then ov S p (plv S (rs S p)) else plv S (rs S p + k)) := by
  have step : ∀ p, p < pn S → (wp S (rs S p) = p ∧ wf S (rs S p) = rs S p ∧ wl S (rs S p) = ov S p (plv S (rs S p))) → ∀ k, k < pT S p → wp S (rs S p + k) = p ∧ wf S (rs S p + k) = rs S p ∧ wl S (rs S p + k) = (if k = 0 then ov S p (plv S (rs S p)) else plv S (rs S p + k)) := by
    intro p hp h0 k
    induction k with
    | zero => intro _; exact h0
    | succ k ih =>
      intro hk
      obtain ⟨a, b, c⟩ := ih (by omega)
      have hn : ¬ rs S p + k + 1 = wf S (rs S p + k) + pT S (wp S (rs S p + k)) := by rw [a, b]; omega
      obtain ⟨d, e, f, g⟩ := wk_sta hn
      refine ⟨d.trans a, e.trans b, ?_⟩
      rw [if_neg (by omega)]
      exact f
  intro p
  induction p with
  | zero => intro hp; exact step 0 hp ⟨rfl, rfl, rfl⟩
  | succ p ih =>
    intro hp
    refine step (p + 1) hp ?_
    have h1 := w.t1 p (by omega)
    obtain ⟨a, b, c⟩ := ih (by omega) (pT S p - 1) (by omega)
    have e : rs S (p + 1) = rs S p + (pT S p - 1) + 1 := by rw [rs_s]; omega
    have hn : rs S p + (pT S p - 1) + 1 = wf S (rs S p + (pT S p - 1)) + pT S (wp S (rs S p + (pT S p - 1))) := by rw [a, b]; omega
    obtain ⟨d, e1, f, g⟩ := wk_adv hn
    rw [e]
    rw [a] at d f
    exact ⟨d, e1, f⟩
set_option maxHeartbeats 400000 in
theorem ov_lt {S : Mm} (w : WF S) {p l : Nat} (hp : p < 16) (hl : l < 4) : ov S p l < 4 := by
  unfold ov
  split
  · exact hl
  · rcases w.l p hp with e | ⟨k, hk, e⟩
    · rename_i h; exact absurd (by rw [e]; decide) h
    · rw [e, nv_nI (by omega)]; exact hk
set_option maxHeartbeats 400000 in
theorem sg_lt {S : Mm} (w : WF S) {r l : Nat} (hp : r < 144) (hl : l < 4) : sg S r l < 4 := by
  unfold sg
  split
  · exact hl
  · rcases w.r r hp with e | ⟨k, hk, e⟩
    · rename_i h; exact absurd (by rw [e]; decide) h
    · rw [e, nv_nI (by omega)]; exact hk
set_option maxHeartbeats 400000 in
theorem rs_le {S : Mm} (w : WF S) {p : Nat} (hp : p ≤ 16) : rs S p ≤ 144 := by
  have := su_le (f := pT S) (B := 9) p (fun i hi => (w.t i (by omega)).2)
  unfold rs
  omega
set_option maxHeartbeats 400000 in
theorem tot_le {S : Mm} (w : WF S) : tot S ≤ 144 := rs_le w w.p.2
set_option maxHeartbeats 400000 in
theorem wp_lt {S : Mm} (w : WF S) : ∀ r, r < tot S → ∃ p k, p < pn S ∧ k < pT S p ∧ r = rs S p + k := by
  intro r hr
  have : ∀ n, r < rs S n → ∃ p k, p < n ∧ k < pT S p ∧ r = rs S p + k := by
    intro n
    induction n with
    | zero => intro h; exact absurd h (by unfold rs su; omega)
    | succ n ih =>
      intro h
      by_cases e : r < rs S n
      · obtain ⟨p, k, a, b, c⟩ := ih e
        exact ⟨p, k, by omega, b, c⟩
      · rw [rs_s] at h
        exact ⟨n, r - rs S n, by omega, by omega, by omega⟩
  exact this _ hr
set_option maxHeartbeats 400000 in
theorem wl_lt {S : Mm} (w : WF S) : ∀ r, r < tot S → wl S r < 4 ∧ wp S r < pn S := by
  intro r
  induction r with
  | zero =>
    intro h
    obtain ⟨p, k, a, b, c⟩ := wp_lt w 0 h
    obtain ⟨d, e, f⟩ := wk_at w p a k b
    rw [← c] at d
    exact ⟨ov_lt w (by omega) (by omega), by omega⟩
  | succ r ih =>
    intro h
    obtain ⟨i1, i2⟩ := ih (by omega)
    obtain ⟨p, k, a, b, c⟩ := wp_lt w (r + 1) h
    obtain ⟨d, e, f⟩ := wk_at w p a k b
    rw [← c] at d f
    have hp := w.p.2
    have ht := tot_le w
    refine ⟨?_, by omega⟩
    rw [f]
    have h1 : plv S (r + 1) < 4 := sg_lt w (by omega) i1
    split
    · rename_i hk
      have : rs S p = r + 1 := by omega
      rw [this]
      exact ov_lt w (by omega) h1
    · exact h1
set_option maxHeartbeats 400000 in
theorem plv_lt {S : Mm} (w : WF S) {r : Nat} (h : r ≤ tot S) : plv S r < 4 := by
  cases r with
  | zero => exact (by decide : 0 < 4)
  | succ r =>
    have ht := tot_le w
    exact sg_lt w (by omega) (wl_lt w r (by omega)).1
def wk (m : Mm) (c l p t : Int32) : Mm := ur_ m 13 (fun k => if k = 0 then c else if k = 1 then l else if k = 2 then p else if k = 3 then t else m 13 k)
set_option maxHeartbeats 400000 in
theorem wk_ne {m : Mm} {c l p t : Int32} {a : Nat} (h : ¬ a = 13) : wk m c l p t a = m a := by
  unfold wk ur_
  exact if_neg h
set_option maxHeartbeats 400000 in
theorem wk_c {m : Mm} {c l p t : Int32} : wk m c l p t 13 0 = c := rfl
set_option maxHeartbeats 400000 in
theorem wk_l {m : Mm} {c l p t : Int32} : wk m c l p t 13 1 = l := rfl
set_option maxHeartbeats 400000 in
theorem wk_p {m : Mm} {c l p t : Int32} : wk m c l p t 13 2 = p := rfl
set_option maxHeartbeats 400000 in
theorem wk_t {m : Mm} {c l p t : Int32} : wk m c l p t 13 3 = t := rfl
set_option maxHeartbeats 400000 in
theorem wk_id {m : Mm} : m = wk m (m 13 0) (m 13 1) (m 13 2) (m 13 3) := by
  funext a k
  by_cases h : a = 13
  · subst h
    show m 13 k = (if k = 0 then m 13 0 else if k = 1 then m 13 1 else if k = 2 then m 13 2 else if k = 3 then m 13 3 else m 13 k)
    split
    · rename_i e; rw [e]
    · split
      · rename_i e; rw [e]
      · split
        · rename_i e; rw [e]
        · split
          · rename_i e; rw [e]
          · rfl
  · rw [wk_ne h]

set_option maxHeartbeats 400000 in
theorem wk_sc {m : Mm} {c l p t v : Int32} : uw_ (wk m c l p t) 13 0 v = wk m v l p t := by
  funext a k
  by_cases h : a = 13
  · subst h
    by_cases hk : k = 0
    · subst hk; simp [uw_, wk, ur_]
    · rw [uw_ne (by omega)]
      simp [wk, ur_, hk]
  · rw [uw_ne (by omega), wk_ne h, wk_ne h]

set_option maxHeartbeats 400000 in
theorem wk_sl {m : Mm} {c l p t v : Int32} : uw_ (wk m c l p t) 13 1 v = wk m c v p t := by
  funext a k
  by_cases h : a = 13
  · subst h
    by_cases hk : k = 1
    · subst hk; simp [uw_, wk, ur_]
    · rw [uw_ne (by omega)]
      simp [wk, ur_, hk]
  · rw [uw_ne (by omega), wk_ne h, wk_ne h]

set_option maxHeartbeats 400000 in
theorem wk_sp {m : Mm} {c l p t v : Int32} : uw_ (wk m c l p t) 13 2 v = wk m c l v t := by
  funext a k
  by_cases h : a = 13
  · subst h
    by_cases hk : k = 2
    · subst hk; simp [uw_, wk, ur_]
    · rw [uw_ne (by omega)]
      simp [wk, ur_, hk]
  · rw [uw_ne (by omega), wk_ne h, wk_ne h]

set_option maxHeartbeats 400000 in
theorem wk_st {m : Mm} {c l p t v : Int32} : uw_ (wk m c l p t) 13 3 v = wk m c l p v := by
  funext a k
  by_cases h : a = 13
  · subst h
    by_cases hk : k = 3
    · subst hk; simp [uw_, wk, ur_]
    · rw [uw_ne (by omega)]
      simp [wk, ur_, hk]
  · rw [uw_ne (by omega), wk_ne h, wk_ne h]

set_option maxHeartbeats 400000 in
theorem wk_wk {m : Mm} {c l p t c2 l2 p2 t2 : Int32} : wk (wk m c l p t) c2 l2 p2 t2 = wk m c2 l2 p2 t2 := by
  funext a k
  by_cases h : a = 13
  · subst h
    show (if k = 0 then c2 else if k = 1 then l2 else if k = 2 then p2 else if k = 3 then t2 else wk m c l p t 13 k) = (if k = 0 then c2 else if k = 1 then l2 else if k = 2 then p2 else if k = 3 then t2 else m 13 k)
    split
    · rfl
    · split
      · rfl
      · split
        · rfl
        · split
          · rfl
          · show (if k = 0 then c else if k = 1 then l else if k = 2 then p else if k = 3 then t else m 13 k) = m 13 k
            simp [*]
  · rw [wk_ne h, wk_ne h, wk_ne h]
set_option maxHeartbeats 400000 in
theorem RC_wk {m S : Mm} {c l p t : Int32} (h : RC m S) : RC (wk m c l p t) S := h.mono (fun a h1 _ => wk_ne (by intro e; subst e; exact h1 (by unfold scr; omega)))
def pW (m S : Mm) (x : Int32) : Option Value → Mm → Prop := fun v m' => (∃ r, r < tot S ∧ x = nI r ∧ v = some (.int (nI 1)) ∧ m' = wk m (nI (pC S (wp S r))) (nI (wl S r)) (nI (wp S r)) (nI (wt S r))) ∨ (¬ iR x (tot S) ∧ v = some (.int (nI 0)) ∧ ∃ c l p, m' = wk m c l p (nI (ptk S (tot S))))
set_option maxHeartbeats 400000 in
theorem oC_or {x : Int32} (hx : oR x 4) {l : Nat} : (if oC x = NONE_ then nI l else oC x) = nI (if x < 0 then l else nv x) := by
  rcases hx with rfl | ⟨k, hk, rfl⟩
  · rfl
  · have h1 : ¬ nI k < 0 := nI_pos (by omega)
    rw [oC_id h1, if_neg h1, if_neg (nI_none (by omega)), nv_nI (by omega)]

set_option maxHeartbeats 400000 in
theorem T_gh_keyAt {G : Nat × (Nat → Int32)} {m : Mm} {S : Mm} (h : RC m S) (w : WF S) {c l g b : Nat} (hc : c < 4) (hl : l < 4) (hg : g < 2) (hb : b < bt S c) {s : Nat} (hs : s < 2 ^ (l + 1)) : Y G M_gh_keyAt (0, 0) 0 (en_ M_gh_keyAt [.ref (21 + 5 * c), .ref (41 + 27 * l), .int (nI g), .int (nI b), .int (nI s)]) [] (LAY, m) (qm_ LAY (pu_ (kA S c l g b s) m)) := by
  change Y _ _ _ _ [some (.ref _), some (.ref _), some (.int _), some (.int _), some (.int _), none] _ _ _
  have hn := (w.b c hc).2
  have hu := (w.u l (turn S c b) hl turn_lt).2
  have hr := h.r l _ g s hl hu hg hs
  have hq := oS_none (w.s (ix l (us S l (turn S c b)) g s) (by have := sz_16 hl; unfold ix; omega))
  refine Y_aload_n 0 rfl (pc2 := 1) rfl rfl ?_
  refine Y_aload_n 1 rfl (pc2 := 2) rfl rfl ?_
  refine Y_iload_n 2 rfl (pc2 := 3) rfl rfl ?_
  refine Y_cV 3 rfl (pc2 := 6) rfl ok_le_figureFor lk_gh_274 vi_le_figureFor (ly_le (by omega)) rfl (by decide) rfl (as := [.ref _, .int _]) (rest := []) rfl rfl (T_le_figureFor h w (by omega) (by omega) (by omega)) ?_
  rintro _ _ ⟨rfl, rfl⟩
  change Y _ _ _ _ _ [.ref _] _ _
  refine Y_iload_n 4 rfl (pc2 := 7) rfl rfl ?_
  refine Y_cV 5 rfl (pc2 := 10) rfl ok_fi_rowOf lk_gh_121 vi_fi_rowOf (ly_fi (by omega) (by omega)) rfl (by decide) rfl (as := [.int _]) (rest := []) rfl rfl (T_fi_rowOf (by omega) (by omega) (by omega)) ?_
  rintro _ _ ⟨rfl, rfl⟩
  change Y _ _ _ _ _ [.ref _] _ _
  refine Y_iload 6 rfl (pc2 := 12) rfl rfl ?_
  refine Y_iald 7 rfl (pc2 := 13) rfl (ly_fiR (by omega) (by omega) (by omega)) rfl (by omega) (sz_lt (by omega)) ?_
  refine Y_top (hr) ?_
  refine Y_istore 8 rfl (pc2 := 15) rfl (Nat.le_of_ble_eq_true rfl) (ls2 := [some (.ref _), some (.ref _), some (.int _), some (.int _), some (.int _), some (.int _)]) rfl ?_
  refine Y_iload 9 rfl (pc2 := 17) rfl rfl ?_
  refine Y_ldc 10 rfl (pc2 := 19) rfl kc_gh_84 ?_
  refine Y_icmp_ne 11 rfl (pc2 := 22) rfl (tgt := 27) (by decide) (fun h19 => ?_) (fun h19 => ?_)
  · refine Y_aload_n 14 rfl (pc2 := 28) rfl rfl ?_
    refine Y_getR 15 rfl (pc2 := 31) rfl fl_gh_100 (ly_ci (by omega)) (by decide) rfl rfl (by omega) ?_
    refine Y_iload_n 16 rfl (pc2 := 32) rfl rfl ?_
    refine Y_iald 17 rfl (pc2 := 33) rfl (ly_ciT (by omega)) rfl (by omega) (by decide) ?_
    refine Y_top (h.t c b hc hb) ?_
    refine Y_iload 18 rfl (pc2 := 35) rfl rfl ?_
    refine Y_cS 19 rfl (pc2 := 38) rfl ok_gh_keyOf lk_gh_278 vs_gh_keyOf (as := [.int _, .int _]) (rest := []) rfl rfl T_gh_keyOf ?_
    rintro _ _ ⟨rfl, rfl⟩
    change Y _ _ _ _ _ [.int _] _ _
    refine Y_iret 20 rfl rfl rfl ⟨rfl, ?_⟩
    first
      | exact pu_i (by unfold kA; rw [if_pos (hq.mp (Classical.byContradiction h19))]; rfl)
      | exact pu_i (by unfold kA; rw [if_pos (hq.mp h19)]; rfl)
      | exact pu_i (by unfold kA; have e := mt hq.mpr h19; rw [if_neg e]; unfold oS; rw [if_neg e])
  · refine Y_ldc 12 rfl (pc2 := 24) rfl kc_gh_84 ?_
    refine Y_goto 13 rfl (pc2 := 38) (by decide) ?_
    refine Y_iret 20 rfl rfl rfl ⟨rfl, ?_⟩
    first
      | exact pu_i (by unfold kA; rw [if_pos (hq.mp (Classical.byContradiction h19))]; rfl)
      | exact pu_i (by unfold kA; rw [if_pos (hq.mp h19)]; rfl)
      | exact pu_i (by unfold kA; have e := mt hq.mpr h19; rw [if_neg e]; unfold oS; rw [if_neg e])

set_option maxHeartbeats 400000 in
theorem Y_Q {G : Nat × (Nat → Int32)} {M : Mi} {cap : Nat × Nat} {pc : Nat} {ls : List (Option Value)} {st : List Value} {σ : Sg} {lay : Ly} {P P2 : Option Value → Mm → Prop} (he : P2 = P) (k : Y G M cap pc ls st σ (qm_ lay P)) : Y G M cap pc ls st σ (qm_ lay P2) := he ▸ k
set_option maxHeartbeats 400000 in
theorem L_keyAhead {G : Nat × (Nat → Int32)} {m : Mm} {S : Mm} (h : RC m S) (w : WF S) {c l g b : Nat} (hc : c < 4) (hl : l < 4) (hg : g < 2) (hb : b < bt S c) {z : Int32} : ∀ s, s ≤ 2 ^ (l + 1) → ∀ (u : Option Value), Y G M_gh_keyAhead (0, 0) 6 [some (.ref (21 + 5 * c)), some (.ref (41 + 27 * l)), some (.int (nI g)), some (.int (nI b)), some (.int z), some (.int (nI s - nI 1)), u] [] (LAY, m) (qm_ LAY (pu_ (kH S c l g b s) m)) := by
  have hn := (w.b c hc).2
  have hz := sz_16 hl
  intro s
  induction s with
  | zero =>
    intro _ u
    refine Y_iload 4 rfl (pc2 := 8) rfl rfl ?_
    refine Y_if_lt 5 rfl (pc2 := 11) rfl (tgt := 38) (by decide) (fun h8 => ?_) (fun h8 => ?_)
    · refine Y_ldc 20 rfl (pc2 := 40) rfl kc_gh_84 ?_
      refine Y_iret 21 rfl rfl rfl ⟨rfl, ?_⟩
      exact pu_i rfl
    · exact absurd (by decide) h8
  | succ k ih =>
    intro hk u
    rw [show nI (k + 1) - nI 1 = nI k from nI_pred k]
    refine Y_iload 4 rfl (pc2 := 8) rfl rfl ?_
    refine Y_if_ltn 5 rfl (pc2 := 11) rfl (tgt := 38) (by decide) (by omega) ?_
    refine Y_aload_n 6 rfl (pc2 := 12) rfl rfl ?_
    refine Y_aload_n 7 rfl (pc2 := 13) rfl rfl ?_
    refine Y_iload_n 8 rfl (pc2 := 14) rfl rfl ?_
    refine Y_iload_n 9 rfl (pc2 := 15) rfl rfl ?_
    refine Y_iload 10 rfl (pc2 := 17) rfl rfl ?_
    refine Y_cS 11 rfl (pc2 := 20) rfl ok_gh_keyAt lk_gh_206 vs_gh_keyAt (as := [.ref _, .ref _, .int _, .int _, .int _]) (rest := []) rfl rfl (T_gh_keyAt h w (by omega) (by omega) (by omega) (by omega) (by omega)) ?_
    rintro _ _ ⟨rfl, rfl⟩
    change Y _ _ _ _ _ [.int _] _ _
    refine Y_istore 12 rfl (pc2 := 22) rfl (Nat.le_of_ble_eq_true rfl) (ls2 := [some (.ref _), some (.ref _), some (.int _), some (.int _), some (.int _), some (.int _), some (.int _)]) rfl ?_
    refine Y_iload 13 rfl (pc2 := 24) rfl rfl ?_
    refine Y_ldc 14 rfl (pc2 := 26) rfl kc_gh_84 ?_
    refine Y_icmp_eq 15 rfl (pc2 := 29) rfl (tgt := 32) (by decide) (fun h26 => ?_) (fun h26 => ?_)
    · refine Y_iinc 18 rfl (pc2 := 35) rfl rfl rfl (ls2 := [some (.ref _), some (.ref _), some (.int _), some (.int _), some (.int _), some (.int _), some (.int _)]) rfl ?_
      refine Y_goto 19 rfl (pc2 := 6) (by decide) ?_
      exact Y_ls (by rw [nI_m1]) (Y_Q (congrArg (fun q => pu_ q m) (if_pos h26)) (ih (by omega) _))
    · refine Y_iload 16 rfl (pc2 := 31) rfl rfl ?_
      refine Y_iret 17 rfl rfl rfl ⟨rfl, ?_⟩
      exact pu_i (if_neg h26).symm

set_option maxHeartbeats 400000 in
theorem T_gh_keyAhead {G : Nat × (Nat → Int32)} {m : Mm} {S : Mm} (h : RC m S) (w : WF S) {c l g b : Nat} (hc : c < 4) (hl : l < 4) (hg : g < 2) (hb : b < bt S c) {s : Nat} (hs : s ≤ 2 ^ (l + 1)) : Y G M_gh_keyAhead (0, 0) 0 (en_ M_gh_keyAhead [.ref (21 + 5 * c), .ref (41 + 27 * l), .int (nI g), .int (nI b), .int (nI s)]) [] (LAY, m) (qm_ LAY (pu_ (kH S c l g b s) m)) := by
  change Y _ _ _ _ [some (.ref _), some (.ref _), some (.int _), some (.int _), some (.int _), none, none] _ _ _
  refine Y_iload 0 rfl (pc2 := 2) rfl rfl ?_
  refine Y_iconst 1 rfl (pc2 := 3) rfl (v := nI 1) (by decide) ?_
  refine Y_isub 2 rfl (pc2 := 4) rfl ?_
  refine Y_istore 3 rfl (pc2 := 6) rfl (Nat.le_of_ble_eq_true rfl) (ls2 := [some (.ref _), some (.ref _), some (.int _), some (.int _), some (.int _), some (.int _), none]) rfl ?_
  exact L_keyAhead h w hc hl hg hb s hs _

set_option maxHeartbeats 400000 in
theorem L_halfStrikes {G : Nat × (Nat → Int32)} {m : Mm} {S : Mm} (h : RC m S) (w : WF S) {c l g : Nat} (hc : c < 4) (hl : l < 4) (hg : g < 2) : ∀ i, i ≤ bt S c → Y G M_gh_halfStrikes (0, 0) 5 [some (.ref (21 + 5 * c)), some (.ref (41 + 27 * l)), some (.int (nI g)), some (.int (nI (su (fun b => cnt (fun s => ¬ S 157 (ix l (us S l (turn S c b)) g s) = -9) (2 ^ (l + 1))) i))), some (.int (nI i))] [] (LAY, m) (qm_ LAY (pu_ (nI (su (fun b => cnt (fun s => ¬ S 157 (ix l (us S l (turn S c b)) g s) = -9) (2 ^ (l + 1))) (bt S c))) m)) := by
  have hn := (w.b c hc).2
  refine ind_ (fun i hi ih => ?_)
  refine Y_iload 4 rfl (pc2 := 7) rfl rfl ?_
  refine Y_aload_n 5 rfl (pc2 := 8) rfl rfl ?_
  refine Y_getI 6 rfl (pc2 := 11) rfl fl_gh_270 (ly_ci (by omega)) (by decide) rfl ?_
  refine Y_top ((h.b _ (by omega)).trans (w.b _ (by omega)).1) ?_
  refine Y_icmp_gen 7 rfl (pc2 := 14) rfl (tgt := 34) (by decide) (by omega) (by omega) (fun h11 => ?_) (fun h11 => ?_)
  · refine Y_iload_n 19 rfl (pc2 := 35) rfl rfl ?_
    refine Y_iret 20 rfl rfl rfl ⟨rfl, ?_⟩
    exact pu_i (by rw [show i = bt S c by omega])
  · refine Y_iload_n 8 rfl (pc2 := 15) rfl rfl ?_
    refine Y_aload_n 9 rfl (pc2 := 16) rfl rfl ?_
    refine Y_aload_n 10 rfl (pc2 := 17) rfl rfl ?_
    refine Y_iload 11 rfl (pc2 := 19) rfl rfl ?_
    refine Y_cV 12 rfl (pc2 := 22) rfl ok_le_figureFor lk_gh_274 vi_le_figureFor (ly_le (by omega)) rfl (by decide) rfl (as := [.ref _, .int _]) (rest := [.int _]) rfl rfl (T_le_figureFor h w (by omega) (by omega) (by omega)) ?_
    rintro _ _ ⟨rfl, rfl⟩
    change Y _ _ _ _ _ [.ref _, .int _] _ _
    have hu := (w.u l (turn S c i) hl turn_lt).2
    refine Y_iload_n 13 rfl (pc2 := 23) rfl rfl ?_
    refine Y_cV 14 rfl (pc2 := 26) rfl ok_fi_strikesOf lk_gh_146 vi_fi_strikesOf (ly_fi (by omega) (by omega)) rfl (by decide) rfl (as := [.int _]) (rest := [.int _]) rfl rfl (T_fi_strikesOf h w (by omega) (by omega) (by omega)) ?_
    rintro _ _ ⟨rfl, rfl⟩
    change Y _ _ _ _ _ [.int _, .int _] _ _
    refine Y_iadd 15 rfl (pc2 := 27) rfl ?_
    refine Y_top (nI_add _ _) ?_
    refine Y_istore_n 16 rfl (pc2 := 28) rfl (Nat.le_of_ble_eq_true rfl) (ls2 := [some (.ref _), some (.ref _), some (.int _), some (.int _), some (.int _)]) rfl ?_
    refine Y_iinc 17 rfl (pc2 := 31) rfl rfl (nI_inc _ 1) (ls2 := [some (.ref _), some (.ref _), some (.int _), some (.int _), some (.int _)]) rfl ?_
    refine Y_goto 18 rfl (pc2 := 5) (by decide) ?_
    exact ih (i + 1) (by omega) (by omega)

set_option maxHeartbeats 400000 in
theorem T_gh_halfStrikes {G : Nat × (Nat → Int32)} {m : Mm} {S : Mm} (h : RC m S) (w : WF S) {c l g : Nat} (hc : c < 4) (hl : l < 4) (hg : g < 2) : Y G M_gh_halfStrikes (0, 0) 0 (en_ M_gh_halfStrikes [.ref (21 + 5 * c), .ref (41 + 27 * l), .int (nI g)]) [] (LAY, m) (qm_ LAY (pu_ (nI (su (fun b => cnt (fun s => ¬ S 157 (ix l (us S l (turn S c b)) g s) = -9) (2 ^ (l + 1))) (bt S c))) m)) := by
  change Y _ _ _ _ [some (.ref _), some (.ref _), some (.int _), none, none] _ _ _
  refine Y_iconst 0 rfl (pc2 := 1) rfl (v := nI 0) (by decide) ?_
  refine Y_istore_n 1 rfl (pc2 := 2) rfl (Nat.le_of_ble_eq_true rfl) (ls2 := [some (.ref _), some (.ref _), some (.int _), some (.int _), none]) rfl ?_
  refine Y_iconst 2 rfl (pc2 := 3) rfl (v := nI 0) (by decide) ?_
  refine Y_istore 3 rfl (pc2 := 5) rfl (Nat.le_of_ble_eq_true rfl) (ls2 := [some (.ref _), some (.ref _), some (.int _), some (.int _), some (.int _)]) rfl ?_
  exact L_halfStrikes h w hc hl hg 0 (Nat.zero_le _)

set_option maxHeartbeats 400000 in
theorem L_countRounds {G : Nat × (Nat → Int32)} {m : Mm} {S : Mm} (h : RC m S) (w : WF S) : ∀ i, i ≤ pn S → Y G M_pi_countRounds (0, 0) 4 [some (.ref (8)), some (.int (nI (su (pT S) i))), some (.int (nI i))] [] (LAY, m) (qm_ LAY (pu_ (nI (tot S)) m)) := by
  have hn := w.p.2
  refine ind_ (fun i hi ih => ?_)
  refine Y_iload_n 4 rfl (pc2 := 5) rfl rfl ?_
  refine Y_aload_n 5 rfl (pc2 := 6) rfl rfl ?_
  refine Y_getI 6 rfl (pc2 := 9) rfl fl_pi_24 ly_pi (by decide) rfl ?_
  refine Y_top (h.p.trans w.p.1) ?_
  refine Y_icmp_gen 7 rfl (pc2 := 12) rfl (tgt := 27) (by decide) (by omega) (by omega) (fun h9 => ?_) (fun h9 => ?_)
  · refine Y_iload_n 17 rfl (pc2 := 28) rfl rfl ?_
    refine Y_iret 18 rfl rfl rfl ⟨rfl, ?_⟩
    exact pu_i (by rw [show i = pn S by omega]; rfl)
  · refine Y_iload_n 8 rfl (pc2 := 13) rfl rfl ?_
    refine Y_aload_n 9 rfl (pc2 := 14) rfl rfl ?_
    refine Y_getR 10 rfl (pc2 := 17) rfl fl_pi_15 ly_pi (by decide) rfl rfl (by omega) ?_
    refine Y_iload_n 11 rfl (pc2 := 18) rfl rfl ?_
    refine Y_iald 12 rfl (pc2 := 19) rfl ly_piT rfl (by omega) (by decide) ?_
    refine Y_top ((h.pt _ (by omega)).trans (w.t _ (by omega)).1) ?_
    refine Y_iadd 13 rfl (pc2 := 20) rfl ?_
    refine Y_top (nI_add _ _) ?_
    refine Y_istore_n 14 rfl (pc2 := 21) rfl (Nat.le_of_ble_eq_true rfl) (ls2 := [some (.ref _), some (.int _), some (.int _)]) rfl ?_
    refine Y_iinc 15 rfl (pc2 := 24) rfl rfl (nI_inc _ 1) (ls2 := [some (.ref _), some (.int _), some (.int _)]) rfl ?_
    refine Y_goto 16 rfl (pc2 := 4) (by decide) ?_
    exact ih (i + 1) (by omega) (by omega)

set_option maxHeartbeats 400000 in
theorem T_pi_countRounds {G : Nat × (Nat → Int32)} {m : Mm} {S : Mm} (h : RC m S) (w : WF S) : Y G M_pi_countRounds (0, 0) 0 (en_ M_pi_countRounds [.ref (8)]) [] (LAY, m) (qm_ LAY (pu_ (nI (tot S)) m)) := by
  change Y _ _ _ _ [some (.ref _), none, none] _ _ _
  refine Y_iconst 0 rfl (pc2 := 1) rfl (v := nI 0) (by decide) ?_
  refine Y_istore_n 1 rfl (pc2 := 2) rfl (Nat.le_of_ble_eq_true rfl) (ls2 := [some (.ref _), some (.int _), none]) rfl ?_
  refine Y_iconst 2 rfl (pc2 := 3) rfl (v := nI 0) (by decide) ?_
  refine Y_istore_n 3 rfl (pc2 := 4) rfl (Nat.le_of_ble_eq_true rfl) (ls2 := [some (.ref _), some (.int _), some (.int _)]) rfl ?_
  exact L_countRounds h w 0 (Nat.zero_le _)

set_option maxHeartbeats 400000 in
theorem L_allBeats {G : Nat × (Nat → Int32)} {m : Mm} {S : Mm} (h : RC m S) (w : WF S) : ∀ i, i ≤ 4 → Y G M_gh_allBeats (0, 0) 4 [some (.ref (0)), some (.int (nI (su (bt S) i))), some (.int (nI i))] [] (LAY, m) (qm_ LAY (pu_ (nI (su (bt S) 4)) m)) := by
  refine ind_ (fun i hi ih => ?_)
  refine Y_iload_n 4 rfl (pc2 := 5) rfl rfl ?_
  refine Y_iconst 5 rfl (pc2 := 6) rfl (v := nI 4) (by decide) ?_
  refine Y_icmp_gen 6 rfl (pc2 := 9) rfl (tgt := 27) (by decide) (by omega) (by omega) (fun h6 => ?_) (fun h6 => ?_)
  · refine Y_iload_n 17 rfl (pc2 := 28) rfl rfl ?_
    refine Y_iret 18 rfl rfl rfl ⟨rfl, ?_⟩
    exact pu_i (by rw [show i = 4 by omega])
  · refine Y_iload_n 7 rfl (pc2 := 10) rfl rfl ?_
    refine Y_aload_n 8 rfl (pc2 := 11) rfl rfl ?_
    refine Y_getR 9 rfl (pc2 := 14) rfl fl_gh_25 ly_gh (by decide) rfl rfl (by omega) ?_
    refine Y_iload_n 10 rfl (pc2 := 15) rfl rfl ?_
    refine Y_aald 11 rfl (pc2 := 16) rfl ly_ghC (by decide) (fun _ => rfl) rfl (by omega) (by decide) (ly_ghC_at (by omega)) (by omega) ?_
    refine Y_getI 12 rfl (pc2 := 19) rfl fl_gh_270 (ly_ci (by omega)) (by decide) rfl ?_
    refine Y_top ((h.b _ (by omega)).trans (w.b _ (by omega)).1) ?_
    refine Y_iadd 13 rfl (pc2 := 20) rfl ?_
    refine Y_top (nI_add _ _) ?_
    refine Y_istore_n 14 rfl (pc2 := 21) rfl (Nat.le_of_ble_eq_true rfl) (ls2 := [some (.ref _), some (.int _), some (.int _)]) rfl ?_
    refine Y_iinc 15 rfl (pc2 := 24) rfl rfl (nI_inc _ 1) (ls2 := [some (.ref _), some (.int _), some (.int _)]) rfl ?_
    refine Y_goto 16 rfl (pc2 := 4) (by decide) ?_
    exact ih (i + 1) (by omega) (by omega)

set_option maxHeartbeats 400000 in
theorem T_gh_allBeats {G : Nat × (Nat → Int32)} {m : Mm} {S : Mm} (h : RC m S) (w : WF S) : Y G M_gh_allBeats (0, 0) 0 (en_ M_gh_allBeats [.ref (0)]) [] (LAY, m) (qm_ LAY (pu_ (nI (su (bt S) 4)) m)) := by
  change Y _ _ _ _ [some (.ref _), none, none] _ _ _
  refine Y_iconst 0 rfl (pc2 := 1) rfl (v := nI 0) (by decide) ?_
  refine Y_istore_n 1 rfl (pc2 := 2) rfl (Nat.le_of_ble_eq_true rfl) (ls2 := [some (.ref _), some (.int _), none]) rfl ?_
  refine Y_iconst 2 rfl (pc2 := 3) rfl (v := nI 0) (by decide) ?_
  refine Y_istore_n 3 rfl (pc2 := 4) rfl (Nat.le_of_ble_eq_true rfl) (ls2 := [some (.ref _), some (.int _), some (.int _)]) rfl ?_
  exact L_allBeats h w 0 (Nat.zero_le _)

set_option maxHeartbeats 400000 in
theorem L_allGongs {G : Nat × (Nat → Int32)} {m : Mm} {S : Mm} (h : RC m S) (w : WF S) : ∀ i, i ≤ 4 → Y G M_gh_allGongs (0, 0) 4 [some (.ref (0)), some (.int (nI (su (fun c => cnt (fun b => ¬ S 156 (32 * c + b) < 0) (bt S c)) i))), some (.int (nI i))] [] (LAY, m) (qm_ LAY (pu_ (nI (su (fun c => cnt (fun b => ¬ S 156 (32 * c + b) < 0) (bt S c)) 4)) m)) := by
  refine ind_ (fun i hi ih => ?_)
  refine Y_iload_n 4 rfl (pc2 := 5) rfl rfl ?_
  refine Y_iconst 5 rfl (pc2 := 6) rfl (v := nI 4) (by decide) ?_
  refine Y_icmp_gen 6 rfl (pc2 := 9) rfl (tgt := 27) (by decide) (by omega) (by omega) (fun h6 => ?_) (fun h6 => ?_)
  · refine Y_iload_n 17 rfl (pc2 := 28) rfl rfl ?_
    refine Y_iret 18 rfl rfl rfl ⟨rfl, ?_⟩
    exact pu_i (by rw [show i = 4 by omega])
  · refine Y_iload_n 7 rfl (pc2 := 10) rfl rfl ?_
    refine Y_aload_n 8 rfl (pc2 := 11) rfl rfl ?_
    refine Y_getR 9 rfl (pc2 := 14) rfl fl_gh_25 ly_gh (by decide) rfl rfl (by omega) ?_
    refine Y_iload_n 10 rfl (pc2 := 15) rfl rfl ?_
    refine Y_aald 11 rfl (pc2 := 16) rfl ly_ghC (by decide) (fun _ => rfl) rfl (by omega) (by decide) (ly_ghC_at (by omega)) (by omega) ?_
    refine Y_cV 12 rfl (pc2 := 19) rfl ok_ci_countGongs lk_gh_216 vi_ci_countGongs (ly_ci (by omega)) rfl (by decide) rfl (as := []) (rest := [.int _]) rfl rfl (T_ci_countGongs h w (by omega)) ?_
    rintro _ _ ⟨rfl, rfl⟩
    change Y _ _ _ _ _ [.int _, .int _] _ _
    refine Y_iadd 13 rfl (pc2 := 20) rfl ?_
    refine Y_top (nI_add _ _) ?_
    refine Y_istore_n 14 rfl (pc2 := 21) rfl (Nat.le_of_ble_eq_true rfl) (ls2 := [some (.ref _), some (.int _), some (.int _)]) rfl ?_
    refine Y_iinc 15 rfl (pc2 := 24) rfl rfl (nI_inc _ 1) (ls2 := [some (.ref _), some (.int _), some (.int _)]) rfl ?_
    refine Y_goto 16 rfl (pc2 := 4) (by decide) ?_
    exact ih (i + 1) (by omega) (by omega)

set_option maxHeartbeats 400000 in
theorem T_gh_allGongs {G : Nat × (Nat → Int32)} {m : Mm} {S : Mm} (h : RC m S) (w : WF S) : Y G M_gh_allGongs (0, 0) 0 (en_ M_gh_allGongs [.ref (0)]) [] (LAY, m) (qm_ LAY (pu_ (nI (su (fun c => cnt (fun b => ¬ S 156 (32 * c + b) < 0) (bt S c)) 4)) m)) := by
  change Y _ _ _ _ [some (.ref _), none, none] _ _ _
  refine Y_iconst 0 rfl (pc2 := 1) rfl (v := nI 0) (by decide) ?_
  refine Y_istore_n 1 rfl (pc2 := 2) rfl (Nat.le_of_ble_eq_true rfl) (ls2 := [some (.ref _), some (.int _), none]) rfl ?_
  refine Y_iconst 2 rfl (pc2 := 3) rfl (v := nI 0) (by decide) ?_
  refine Y_istore_n 3 rfl (pc2 := 4) rfl (Nat.le_of_ble_eq_true rfl) (ls2 := [some (.ref _), some (.int _), some (.int _)]) rfl ?_
  exact L_allGongs h w 0 (Nat.zero_le _)

set_option maxHeartbeats 400000 in
theorem L_allRight {G : Nat × (Nat → Int32)} {m : Mm} {S : Mm} (h : RC m S) (w : WF S) : ∀ i, i ≤ 4 → Y G M_gh_allRight (0, 0) 4 [some (.ref (0)), some (.int (nI (su (fun l => cnt (fun f => wS S l f = 2 ^ (l + 1)) 6) i))), some (.int (nI i))] [] (LAY, m) (qm_ LAY (pu_ (nI (su (fun l => cnt (fun f => wS S l f = 2 ^ (l + 1)) 6) 4)) m)) := by
  refine ind_ (fun i hi ih => ?_)
  refine Y_iload_n 4 rfl (pc2 := 5) rfl rfl ?_
  refine Y_iconst 5 rfl (pc2 := 6) rfl (v := nI 4) (by decide) ?_
  refine Y_icmp_gen 6 rfl (pc2 := 9) rfl (tgt := 27) (by decide) (by omega) (by omega) (fun h6 => ?_) (fun h6 => ?_)
  · refine Y_iload_n 17 rfl (pc2 := 28) rfl rfl ?_
    refine Y_iret 18 rfl rfl rfl ⟨rfl, ?_⟩
    exact pu_i (by rw [show i = 4 by omega])
  · refine Y_iload_n 7 rfl (pc2 := 10) rfl rfl ?_
    refine Y_aload_n 8 rfl (pc2 := 11) rfl rfl ?_
    refine Y_getR 9 rfl (pc2 := 14) rfl fl_gh_31 ly_gh (by decide) rfl rfl (by omega) ?_
    refine Y_iload_n 10 rfl (pc2 := 15) rfl rfl ?_
    refine Y_aald 11 rfl (pc2 := 16) rfl ly_ghL (by decide) (fun _ => rfl) rfl (by omega) (by decide) (ly_ghL_at (by omega)) (by omega) ?_
    refine Y_cV 12 rfl (pc2 := 19) rfl ok_le_countRight lk_gh_282 vi_le_countRight (ly_le (by omega)) rfl (by decide) rfl (as := []) (rest := [.int _]) rfl rfl (T_le_countRight h w (by omega)) ?_
    rintro _ _ ⟨rfl, rfl⟩
    change Y _ _ _ _ _ [.int _, .int _] _ _
    refine Y_iadd 13 rfl (pc2 := 20) rfl ?_
    refine Y_top (nI_add _ _) ?_
    refine Y_istore_n 14 rfl (pc2 := 21) rfl (Nat.le_of_ble_eq_true rfl) (ls2 := [some (.ref _), some (.int _), some (.int _)]) rfl ?_
    refine Y_iinc 15 rfl (pc2 := 24) rfl rfl (nI_inc _ 1) (ls2 := [some (.ref _), some (.int _), some (.int _)]) rfl ?_
    refine Y_goto 16 rfl (pc2 := 4) (by decide) ?_
    exact ih (i + 1) (by omega) (by omega)

set_option maxHeartbeats 400000 in
theorem T_gh_allRight {G : Nat × (Nat → Int32)} {m : Mm} {S : Mm} (h : RC m S) (w : WF S) : Y G M_gh_allRight (0, 0) 0 (en_ M_gh_allRight [.ref (0)]) [] (LAY, m) (qm_ LAY (pu_ (nI (su (fun l => cnt (fun f => wS S l f = 2 ^ (l + 1)) 6) 4)) m)) := by
  change Y _ _ _ _ [some (.ref _), none, none] _ _ _
  refine Y_iconst 0 rfl (pc2 := 1) rfl (v := nI 0) (by decide) ?_
  refine Y_istore_n 1 rfl (pc2 := 2) rfl (Nat.le_of_ble_eq_true rfl) (ls2 := [some (.ref _), some (.int _), none]) rfl ?_
  refine Y_iconst 2 rfl (pc2 := 3) rfl (v := nI 0) (by decide) ?_
  refine Y_istore_n 3 rfl (pc2 := 4) rfl (Nat.le_of_ble_eq_true rfl) (ls2 := [some (.ref _), some (.int _), some (.int _)]) rfl ?_
  exact L_allRight h w 0 (Nat.zero_le _)

set_option maxHeartbeats 400000 in
theorem SU_n {G : Nat × (Nat → Int32)} {m : Mm} {g k : Nat} (hk : k < 4) {i : Nat} (hi : i < 5) : Y G M_gh_standsUnder (0, 0) 4 [some (.int (nI g)), some (.int (nI k)), some (.int (NONE_)), some (.int (nI i))] [] (LAY, m) (qm_ LAY (pu_ (bI (False)) m)) := by
  refine Y_iload_n 4 rfl (pc2 := 5) rfl rfl ?_
  refine Y_iconst 5 rfl (pc2 := 6) rfl (v := nI 4) (by decide) ?_
  refine Y_icmp_gen 6 rfl (pc2 := 9) rfl (tgt := 36) (by decide) (by omega) (by omega) (fun h6 => ?_) (fun h6 => ?_)
  · refine Y_iconst 22 rfl (pc2 := 37) rfl (v := nI 0) (by decide) ?_
    refine Y_iret 23 rfl rfl rfl ⟨rfl, ?_⟩
    exact pu_f (fun e => e)
  · refine Y_iload_n 7 rfl (pc2 := 10) rfl rfl ?_
    refine Y_iconst 8 rfl (pc2 := 11) rfl (v := nI 4) (by decide) ?_
    refine Y_cS 9 rfl (pc2 := 14) rfl ok_gh_isBelow lk_gh_80 vs_gh_isBelow (as := [.int _, .int _]) (rest := []) rfl rfl (T_gh_isBelow (by omega)) ?_
    rintro _ _ ⟨rfl, rfl⟩
    change Y _ _ _ _ _ [.int _] _ _
    refine Y_if_eqb 10 rfl (pc2 := 17) rfl (tgt := 36) (by decide) (fun h14 => ?_) (fun h14 => ?_)
    · refine Y_iconst 22 rfl (pc2 := 37) rfl (v := nI 0) (by decide) ?_
      refine Y_iret 23 rfl rfl rfl ⟨rfl, ?_⟩
      exact pu_f (fun e => e)
    · obtain ⟨q, hq, e⟩ := h14
      exact absurd e.symm (nI_none (by omega))

set_option maxHeartbeats 400000 in
theorem SU_0 {G : Nat × (Nat → Int32)} {m : Mm} {g k : Nat} (hk : k < 4) {i : Nat} (hi : i < 4) : Y G M_gh_standsUnder (0, 0) 4 [some (.int (nI g)), some (.int (nI k)), some (.int (nI 0)), some (.int (nI i))] [] (LAY, m) (qm_ LAY (pu_ (bI (k = 0)) m)) := by
  refine Y_iload_n 4 rfl (pc2 := 5) rfl rfl ?_
  refine Y_iconst 5 rfl (pc2 := 6) rfl (v := nI 4) (by decide) ?_
  refine Y_icmp_gen 6 rfl (pc2 := 9) rfl (tgt := 36) (by decide) (by omega) (by omega) (fun h6 => ?_) (fun h6 => ?_)
  · refine Y_iconst 22 rfl (pc2 := 37) rfl (v := nI 0) (by decide) ?_
    refine Y_iret 23 rfl rfl rfl ⟨rfl, ?_⟩
    first | exact pu_f (by omega) | omega | exact absurd (by first | exact ⟨_, (by omega), rfl⟩) h14
  · refine Y_iload_n 7 rfl (pc2 := 10) rfl rfl ?_
    refine Y_iconst 8 rfl (pc2 := 11) rfl (v := nI 4) (by decide) ?_
    refine Y_cS 9 rfl (pc2 := 14) rfl ok_gh_isBelow lk_gh_80 vs_gh_isBelow (as := [.int _, .int _]) (rest := []) rfl rfl (T_gh_isBelow (by omega)) ?_
    rintro _ _ ⟨rfl, rfl⟩
    change Y _ _ _ _ _ [.int _] _ _
    refine Y_if_eqb 10 rfl (pc2 := 17) rfl (tgt := 36) (by decide) (fun h14 => ?_) (fun h14 => ?_)
    · refine Y_iconst 22 rfl (pc2 := 37) rfl (v := nI 0) (by decide) ?_
      refine Y_iret 23 rfl rfl rfl ⟨rfl, ?_⟩
      first | exact pu_f (by omega) | omega | exact absurd (by first | exact ⟨_, (by omega), rfl⟩) h14
    · refine Y_iload_n 11 rfl (pc2 := 18) rfl rfl ?_
      refine Y_iload_n 12 rfl (pc2 := 19) rfl rfl ?_
      refine Y_icmp_nen 13 rfl (pc2 := 22) rfl (tgt := 24) (by decide) (by omega) (by omega) (fun h19 => ?_) (fun h19 => ?_)
      · refine Y_gets 16 rfl (pc2 := 27) rfl fs_gh_271 ?_
        refine Y_iload_n 17 rfl (pc2 := 28) rfl rfl ?_
        refine Y_sald 18 rfl (pc2 := 29) rfl (z := 1) (by decide) rfl (by show _ < 4; omega) (by show 4 < _; decide) ?_
        refine Y_top (show o_F G 1 0 = NONE_ from rfl) ?_
        refine Y_istore_n 19 rfl (pc2 := 30) rfl (Nat.le_of_ble_eq_true rfl) (ls2 := [some (.int _), some (.int _), some (.int _), some (.int _)]) rfl ?_
        refine Y_iinc 20 rfl (pc2 := 33) rfl rfl (nI_inc _ 1) (ls2 := [some (.int _), some (.int _), some (.int _), some (.int _)]) rfl ?_
        refine Y_goto 21 rfl (pc2 := 4) (by decide) ?_
        exact Y_Q (by rw [bI_c (show (k = 0) ↔ (False) from ⟨fun e => by first | omega | exact e.elim, fun e => by first | omega | exact e.elim⟩)]) (SU_n hk (by omega))
      · refine Y_iconst 14 rfl (pc2 := 23) rfl (v := nI 1) (by decide) ?_
        refine Y_iret 15 rfl rfl rfl ⟨rfl, ?_⟩
        exact pu_t (by omega)

set_option maxHeartbeats 400000 in
theorem SU_1 {G : Nat × (Nat → Int32)} {m : Mm} {g k : Nat} (hk : k < 4) {i : Nat} (hi : i < 3) : Y G M_gh_standsUnder (0, 0) 4 [some (.int (nI g)), some (.int (nI k)), some (.int (nI 1)), some (.int (nI i))] [] (LAY, m) (qm_ LAY (pu_ (bI (k = 0 ∨ k = 1)) m)) := by
  refine Y_iload_n 4 rfl (pc2 := 5) rfl rfl ?_
  refine Y_iconst 5 rfl (pc2 := 6) rfl (v := nI 4) (by decide) ?_
  refine Y_icmp_gen 6 rfl (pc2 := 9) rfl (tgt := 36) (by decide) (by omega) (by omega) (fun h6 => ?_) (fun h6 => ?_)
  · refine Y_iconst 22 rfl (pc2 := 37) rfl (v := nI 0) (by decide) ?_
    refine Y_iret 23 rfl rfl rfl ⟨rfl, ?_⟩
    first | exact pu_f (by omega) | omega | exact absurd (by first | exact ⟨_, (by omega), rfl⟩) h14
  · refine Y_iload_n 7 rfl (pc2 := 10) rfl rfl ?_
    refine Y_iconst 8 rfl (pc2 := 11) rfl (v := nI 4) (by decide) ?_
    refine Y_cS 9 rfl (pc2 := 14) rfl ok_gh_isBelow lk_gh_80 vs_gh_isBelow (as := [.int _, .int _]) (rest := []) rfl rfl (T_gh_isBelow (by omega)) ?_
    rintro _ _ ⟨rfl, rfl⟩
    change Y _ _ _ _ _ [.int _] _ _
    refine Y_if_eqb 10 rfl (pc2 := 17) rfl (tgt := 36) (by decide) (fun h14 => ?_) (fun h14 => ?_)
    · refine Y_iconst 22 rfl (pc2 := 37) rfl (v := nI 0) (by decide) ?_
      refine Y_iret 23 rfl rfl rfl ⟨rfl, ?_⟩
      first | exact pu_f (by omega) | omega | exact absurd (by first | exact ⟨_, (by omega), rfl⟩) h14
    · refine Y_iload_n 11 rfl (pc2 := 18) rfl rfl ?_
      refine Y_iload_n 12 rfl (pc2 := 19) rfl rfl ?_
      refine Y_icmp_nen 13 rfl (pc2 := 22) rfl (tgt := 24) (by decide) (by omega) (by omega) (fun h19 => ?_) (fun h19 => ?_)
      · refine Y_gets 16 rfl (pc2 := 27) rfl fs_gh_271 ?_
        refine Y_iload_n 17 rfl (pc2 := 28) rfl rfl ?_
        refine Y_sald 18 rfl (pc2 := 29) rfl (z := 1) (by decide) rfl (by show _ < 4; omega) (by show 4 < _; decide) ?_
        refine Y_top (show o_F G 1 1 = nI 0 from rfl) ?_
        refine Y_istore_n 19 rfl (pc2 := 30) rfl (Nat.le_of_ble_eq_true rfl) (ls2 := [some (.int _), some (.int _), some (.int _), some (.int _)]) rfl ?_
        refine Y_iinc 20 rfl (pc2 := 33) rfl rfl (nI_inc _ 1) (ls2 := [some (.int _), some (.int _), some (.int _), some (.int _)]) rfl ?_
        refine Y_goto 21 rfl (pc2 := 4) (by decide) ?_
        exact Y_Q (by rw [bI_c (show (k = 0 ∨ k = 1) ↔ (k = 0) from ⟨fun e => by first | omega | exact e.elim, fun e => by first | omega | exact e.elim⟩)]) (SU_0 hk (by omega))
      · refine Y_iconst 14 rfl (pc2 := 23) rfl (v := nI 1) (by decide) ?_
        refine Y_iret 15 rfl rfl rfl ⟨rfl, ?_⟩
        exact pu_t (by omega)

set_option maxHeartbeats 400000 in
theorem SU_2 {G : Nat × (Nat → Int32)} {m : Mm} {g k : Nat} (hk : k < 4) {i : Nat} (hi : i < 3) : Y G M_gh_standsUnder (0, 0) 4 [some (.int (nI g)), some (.int (nI k)), some (.int (nI 2)), some (.int (nI i))] [] (LAY, m) (qm_ LAY (pu_ (bI (k = 0 ∨ k = 2)) m)) := by
  refine Y_iload_n 4 rfl (pc2 := 5) rfl rfl ?_
  refine Y_iconst 5 rfl (pc2 := 6) rfl (v := nI 4) (by decide) ?_
  refine Y_icmp_gen 6 rfl (pc2 := 9) rfl (tgt := 36) (by decide) (by omega) (by omega) (fun h6 => ?_) (fun h6 => ?_)
  · refine Y_iconst 22 rfl (pc2 := 37) rfl (v := nI 0) (by decide) ?_
    refine Y_iret 23 rfl rfl rfl ⟨rfl, ?_⟩
    first | exact pu_f (by omega) | omega | exact absurd (by first | exact ⟨_, (by omega), rfl⟩) h14
  · refine Y_iload_n 7 rfl (pc2 := 10) rfl rfl ?_
    refine Y_iconst 8 rfl (pc2 := 11) rfl (v := nI 4) (by decide) ?_
    refine Y_cS 9 rfl (pc2 := 14) rfl ok_gh_isBelow lk_gh_80 vs_gh_isBelow (as := [.int _, .int _]) (rest := []) rfl rfl (T_gh_isBelow (by omega)) ?_
    rintro _ _ ⟨rfl, rfl⟩
    change Y _ _ _ _ _ [.int _] _ _
    refine Y_if_eqb 10 rfl (pc2 := 17) rfl (tgt := 36) (by decide) (fun h14 => ?_) (fun h14 => ?_)
    · refine Y_iconst 22 rfl (pc2 := 37) rfl (v := nI 0) (by decide) ?_
      refine Y_iret 23 rfl rfl rfl ⟨rfl, ?_⟩
      first | exact pu_f (by omega) | omega | exact absurd (by first | exact ⟨_, (by omega), rfl⟩) h14
    · refine Y_iload_n 11 rfl (pc2 := 18) rfl rfl ?_
      refine Y_iload_n 12 rfl (pc2 := 19) rfl rfl ?_
      refine Y_icmp_nen 13 rfl (pc2 := 22) rfl (tgt := 24) (by decide) (by omega) (by omega) (fun h19 => ?_) (fun h19 => ?_)
      · refine Y_gets 16 rfl (pc2 := 27) rfl fs_gh_271 ?_
        refine Y_iload_n 17 rfl (pc2 := 28) rfl rfl ?_
        refine Y_sald 18 rfl (pc2 := 29) rfl (z := 1) (by decide) rfl (by show _ < 4; omega) (by show 4 < _; decide) ?_
        refine Y_top (show o_F G 1 2 = nI 0 from rfl) ?_
        refine Y_istore_n 19 rfl (pc2 := 30) rfl (Nat.le_of_ble_eq_true rfl) (ls2 := [some (.int _), some (.int _), some (.int _), some (.int _)]) rfl ?_
        refine Y_iinc 20 rfl (pc2 := 33) rfl rfl (nI_inc _ 1) (ls2 := [some (.int _), some (.int _), some (.int _), some (.int _)]) rfl ?_
        refine Y_goto 21 rfl (pc2 := 4) (by decide) ?_
        exact Y_Q (by rw [bI_c (show (k = 0 ∨ k = 2) ↔ (k = 0) from ⟨fun e => by first | omega | exact e.elim, fun e => by first | omega | exact e.elim⟩)]) (SU_0 hk (by omega))
      · refine Y_iconst 14 rfl (pc2 := 23) rfl (v := nI 1) (by decide) ?_
        refine Y_iret 15 rfl rfl rfl ⟨rfl, ?_⟩
        exact pu_t (by omega)

set_option maxHeartbeats 400000 in
theorem SU_3 {G : Nat × (Nat → Int32)} {m : Mm} {g k : Nat} (hk : k < 4) {i : Nat} (hi : i < 2) : Y G M_gh_standsUnder (0, 0) 4 [some (.int (nI g)), some (.int (nI k)), some (.int (nI 3)), some (.int (nI i))] [] (LAY, m) (qm_ LAY (pu_ (bI (k = 0 ∨ k = 2 ∨ k = 3)) m)) := by
  refine Y_iload_n 4 rfl (pc2 := 5) rfl rfl ?_
  refine Y_iconst 5 rfl (pc2 := 6) rfl (v := nI 4) (by decide) ?_
  refine Y_icmp_gen 6 rfl (pc2 := 9) rfl (tgt := 36) (by decide) (by omega) (by omega) (fun h6 => ?_) (fun h6 => ?_)
  · refine Y_iconst 22 rfl (pc2 := 37) rfl (v := nI 0) (by decide) ?_
    refine Y_iret 23 rfl rfl rfl ⟨rfl, ?_⟩
    first | exact pu_f (by omega) | omega | exact absurd (by first | exact ⟨_, (by omega), rfl⟩) h14
  · refine Y_iload_n 7 rfl (pc2 := 10) rfl rfl ?_
    refine Y_iconst 8 rfl (pc2 := 11) rfl (v := nI 4) (by decide) ?_
    refine Y_cS 9 rfl (pc2 := 14) rfl ok_gh_isBelow lk_gh_80 vs_gh_isBelow (as := [.int _, .int _]) (rest := []) rfl rfl (T_gh_isBelow (by omega)) ?_
    rintro _ _ ⟨rfl, rfl⟩
    change Y _ _ _ _ _ [.int _] _ _
    refine Y_if_eqb 10 rfl (pc2 := 17) rfl (tgt := 36) (by decide) (fun h14 => ?_) (fun h14 => ?_)
    · refine Y_iconst 22 rfl (pc2 := 37) rfl (v := nI 0) (by decide) ?_
      refine Y_iret 23 rfl rfl rfl ⟨rfl, ?_⟩
      first | exact pu_f (by omega) | omega | exact absurd (by first | exact ⟨_, (by omega), rfl⟩) h14
    · refine Y_iload_n 11 rfl (pc2 := 18) rfl rfl ?_
      refine Y_iload_n 12 rfl (pc2 := 19) rfl rfl ?_
      refine Y_icmp_nen 13 rfl (pc2 := 22) rfl (tgt := 24) (by decide) (by omega) (by omega) (fun h19 => ?_) (fun h19 => ?_)
      · refine Y_gets 16 rfl (pc2 := 27) rfl fs_gh_271 ?_
        refine Y_iload_n 17 rfl (pc2 := 28) rfl rfl ?_
        refine Y_sald 18 rfl (pc2 := 29) rfl (z := 1) (by decide) rfl (by show _ < 4; omega) (by show 4 < _; decide) ?_
        refine Y_top (show o_F G 1 3 = nI 2 from rfl) ?_
        refine Y_istore_n 19 rfl (pc2 := 30) rfl (Nat.le_of_ble_eq_true rfl) (ls2 := [some (.int _), some (.int _), some (.int _), some (.int _)]) rfl ?_
        refine Y_iinc 20 rfl (pc2 := 33) rfl rfl (nI_inc _ 1) (ls2 := [some (.int _), some (.int _), some (.int _), some (.int _)]) rfl ?_
        refine Y_goto 21 rfl (pc2 := 4) (by decide) ?_
        exact Y_Q (by rw [bI_c (show (k = 0 ∨ k = 2 ∨ k = 3) ↔ (k = 0 ∨ k = 2) from ⟨fun e => by first | omega | exact e.elim, fun e => by first | omega | exact e.elim⟩)]) (SU_2 hk (by omega))
      · refine Y_iconst 14 rfl (pc2 := 23) rfl (v := nI 1) (by decide) ?_
        refine Y_iret 15 rfl rfl rfl ⟨rfl, ?_⟩
        exact pu_t (by omega)

set_option maxHeartbeats 400000 in
theorem T_gh_standsUnder {G : Nat × (Nat → Int32)} {m : Mm} {g k : Nat} (hg : g < 4) (hk : k < 4) : Y G M_gh_standsUnder (0, 0) 0 (en_ M_gh_standsUnder [.int (nI g), .int (nI k)]) [] (LAY, m) (qm_ LAY (pu_ (bI (k = 0 ∨ g = k ∨ (k = 2 ∧ g = 3))) m)) := by
  change Y _ _ _ _ [some (.int _), some (.int _), none, none] _ _ _
  refine Y_iload_n 0 rfl (pc2 := 1) rfl rfl ?_
  refine Y_istore_n 1 rfl (pc2 := 2) rfl (Nat.le_of_ble_eq_true rfl) (ls2 := [some (.int _), some (.int _), some (.int _), none]) rfl ?_
  refine Y_iconst 2 rfl (pc2 := 3) rfl (v := nI 0) (by decide) ?_
  refine Y_istore_n 3 rfl (pc2 := 4) rfl (Nat.le_of_ble_eq_true rfl) (ls2 := [some (.int _), some (.int _), some (.int _), some (.int _)]) rfl ?_
  have e : g = 0 ∨ g = 1 ∨ g = 2 ∨ g = 3 := by omega
  rcases e with rfl | rfl | rfl | rfl
  · exact Y_Q (by rw [bI_c (show (k = 0 ∨ 0 = k ∨ (k = 2 ∧ 0 = 3)) ↔ (k = 0) from ⟨fun e => by omega, fun e => by omega⟩)]) (SU_0 hk (by omega))
  · exact Y_Q (by rw [bI_c (show (k = 0 ∨ 1 = k ∨ (k = 2 ∧ 1 = 3)) ↔ (k = 0 ∨ k = 1) from ⟨fun e => by omega, fun e => by omega⟩)]) (SU_1 hk (by omega))
  · exact Y_Q (by rw [bI_c (show (k = 0 ∨ 2 = k ∨ (k = 2 ∧ 2 = 3)) ↔ (k = 0 ∨ k = 2) from ⟨fun e => by omega, fun e => by omega⟩)]) (SU_2 hk (by omega))
  · exact Y_Q (by rw [bI_c (show (k = 0 ∨ 3 = k ∨ (k = 2 ∧ 3 = 3)) ↔ (k = 0 ∨ k = 2 ∨ k = 3) from ⟨fun e => by omega, fun e => by omega⟩)]) (SU_3 hk (by omega))
