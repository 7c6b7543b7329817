/-! the class: leaps and choice -/
def ad (a b : Nat) : Nat := if a ≤ b then b - a else a - b
def jn (k : Nat → Nat) : Nat → Nat
  | 0 => 0
  | s + 1 => jn k s + ad (k s) (k (s + 1))
def kq (S : Mm) (l f t s : Nat) : Nat := nv (ky (nI t) (lsh S l f s))
set_option maxHeartbeats 400000 in
theorem ab_ : ∀ a, a < 10 → ∀ b, b < 10 → (if 0 ≤ nI a - nI b then nI a - nI b else 0 - (nI a - nI b)) = nI (ad b a) := by decide +kernel
set_option maxHeartbeats 400000 in
theorem ad_le {a b B : Nat} (ha : a ≤ B) (hb : b ≤ B) : ad a b ≤ B := by
  unfold ad
  split <;> omega
set_option maxHeartbeats 400000 in
theorem jn_le {k : Nat → Nat} {B : Nat} : ∀ n, (∀ i, i ≤ n → k i ≤ B) → jn k n ≤ n * B
  | 0, _ => by simp [jn]
  | n + 1, h => by
    have h1 := jn_le n (fun i hi => h i (by omega))
    have h2 := ad_le (h n (by omega)) (h (n + 1) (by omega))
    show jn k n + ad (k n) (k (n + 1)) ≤ (n + 1) * B
    rw [Nat.succ_mul]; omega
abbrev okF (S : Mm) (l f : Nat) : Prop := wS S l f = 2 ^ (l + 1)
set_option maxHeartbeats 400000 in
theorem kq_is {S : Mm} (w : WF S) {l f t s : Nat} (hl : l < 4) (hf : f < 6) (ht : t < 7) (R : okF S l f) (hs : s < 2 ^ (l + 1)) : ky (nI t) (lsh S l f s) = nI (kq S l f t s) ∧ kq S l f t s < 10 := by
  have hz := sz_16 hl
  have hw : ¬ wr S l f s := fst_all R s hs
  have : ∃ j, j < 9 ∧ lsh S l f s = nI j - nI 4 := by
    unfold lsh
    by_cases e : S 157 (ix l f 0 s) = -9
    · rw [if_pos e]
      have e2 : ¬ S 157 (ix l f 1 s) = -9 := fun q => hw (Or.inl ⟨e, q⟩)
      unfold oS
      rw [if_neg e2]
      rcases w.s (ix l f 1 s) (by unfold ix; omega) with q | q
      · exact absurd q e2
      · exact q
    · rw [if_neg e]
      rcases w.s (ix l f 0 s) (by unfold ix; omega) with q | q
      · exact absurd q e
      · exact q
  obtain ⟨j, hj, e⟩ := this
  unfold kq
  rw [e]
  have := ky_d t ht j hj
  exact ⟨this.2, this.1⟩
def LRt (m S : Mm) (l f t : Nat) : Prop := m 15 (f * 7 + t) = nI (jn (kq S l f t) (2 ^ (l + 1) - 1)) ∧ m 16 (f * 7 + t) = nI (kq S l f t 0) ∧ m 17 (f * 7 + t) = nI (kq S l f t (2 ^ (l + 1) - 1))
def LR (m S : Mm) (l f : Nat) : Prop := ∀ t, t < 7 → LRt m S l f t
def lF (m m' : Mm) (f : Nat) : Prop := ∀ a k, ¬ ((a = 15 ∨ a = 16 ∨ a = 17) ∧ f * 7 ≤ k ∧ k < f * 7 + 7) → m' a k = m a k
set_option maxHeartbeats 400000 in
theorem RC_uw {m S : Mm} {a k : Nat} {v : Int32} (ha : scr a) (h : RC m S) : RC (uw_ m a k v) S := h.mono (fun b hb _ => funext fun j => uw_ne (by rintro ⟨e, _⟩; exact hb (e ▸ ha)))
set_option maxHeartbeats 400000 in
theorem lF_ne {m m' : Mm} {f a : Nat} (h : lF m m' f) (ha : ¬ (a = 15 ∨ a = 16 ∨ a = 17)) : m' a = m a := funext fun k => h a k (fun e => ha e.1)
set_option maxHeartbeats 400000 in
theorem RC_lF {m m' S : Mm} {f : Nat} (h : RC m S) (e : lF m m' f) : RC m' S := h.mono (fun a ha _ => lF_ne e (by intro q; apply ha; unfold scr; omega))
set_option maxHeartbeats 400000 in
theorem LR_lF {m m' S : Mm} {l f g : Nat} (h : LR m S l g) (e : lF m m' f) (hg : ¬ g = f) : LR m' S l g := by
  intro t ht
  obtain ⟨a, b, c⟩ := h t ht
  have q : ∀ a, m' a (g * 7 + t) = m a (g * 7 + t) := fun a => e a _ (by omega)
  exact ⟨(q 15).trans a, (q 16).trans b, (q 17).trans c⟩
set_option maxHeartbeats 400000 in
theorem LR_k {m m' S : Mm} {l f a k : Nat} {v : Int32} (h : LR m S l f) (ha : ¬ (a = 15 ∨ a = 16 ∨ a = 17)) (e : m' = uw_ m a k v) : LR m' S l f := by
  intro t ht
  obtain ⟨p, q, r⟩ := h t ht
  rw [e]
  exact ⟨(uw_ne (by omega)).trans p, (uw_ne (by omega)).trans q, (uw_ne (by omega)).trans r⟩

set_option maxHeartbeats 400000 in
theorem L_inner2 {G : Nat × (Nat → Int32)} {m : Mm} {S : Mm} (h : RC m S) (w : WF S) {l f t : Nat} (hl : l < 4) (hf : f < 6) (ht : t < 7) (R : okF S l f) : ∀ i, i ≤ 2 ^ (l + 1) - 1 → ∀ (u : Option Value), Y G M_li_innerLeaps (0, 0) 15 [some (.ref (44 + 27 * l + 4 * f)), some (.int (nI t)), some (.int (nI (jn (kq S l f t) i))), some (.int (nI (kq S l f t i))), some (.int (nI (i + 1))), u] [] (LAY, m) (qm_ LAY (pu_ (nI (jn (kq S l f t) (2 ^ (l + 1) - 1))) m)) := by
  have hz := sz_16 hl
  have hz2 := sz_2 (l := l)
  refine ind_ (fun i hi ih u => ?_)
  refine Y_iload 10 rfl (pc2 := 17) rfl rfl ?_
  refine Y_aload_n 11 rfl (pc2 := 18) rfl rfl ?_
  refine Y_getR 12 rfl (pc2 := 21) rfl fl_li_28 (ly_fi (by omega) (by omega)) (by decide) rfl rfl (by omega) ?_
  refine Y_alen_i 13 rfl (pc2 := 22) rfl (ly_fiM (by omega) (by omega)) rfl ?_
  refine Y_icmp_gen 14 rfl (pc2 := 25) rfl (tgt := 56) (by decide) (by omega) (by omega) (fun h22 => ?_) (fun h22 => ?_)
  · refine Y_iload_n 32 rfl (pc2 := 57) rfl rfl ?_
    refine Y_iret 33 rfl rfl rfl ⟨rfl, ?_⟩
    exact pu_i (by rw [show i = 2 ^ (l + 1) - 1 by omega])
  · refine Y_iload_n 15 rfl (pc2 := 26) rfl rfl ?_
    refine Y_aload_n 16 rfl (pc2 := 27) rfl rfl ?_
    refine Y_iload 17 rfl (pc2 := 29) rfl rfl ?_
    refine Y_cV 18 rfl (pc2 := 32) rfl ok_fi_lineShift lk_li_37 vi_fi_lineShift (ly_fi (by omega) (by omega)) rfl (by decide) rfl (as := [.int _]) (rest := [.int _]) rfl rfl (T_fi_lineShift h w (by omega) (by omega) (by omega)) ?_
    rintro _ _ ⟨rfl, rfl⟩
    change Y _ _ _ _ _ [.int _, .int _] _ _
    refine Y_cS 19 rfl (pc2 := 35) rfl ok_gh_keyOf lk_li_41 vs_gh_keyOf (as := [.int _, .int _]) (rest := []) rfl rfl T_gh_keyOf ?_
    rintro _ _ ⟨rfl, rfl⟩
    change Y _ _ _ _ _ [.int _] _ _
    refine Y_top (kq_is w hl hf ht R (by omega)).1 ?_
    refine Y_istore 20 rfl (pc2 := 37) rfl (Nat.le_of_ble_eq_true rfl) (ls2 := [some (.ref _), some (.int _), some (.int _), some (.int _), some (.int _), some (.int _)]) rfl ?_
    refine Y_iload_n 21 rfl (pc2 := 38) rfl rfl ?_
    refine Y_iload 22 rfl (pc2 := 40) rfl rfl ?_
    refine Y_iload_n 23 rfl (pc2 := 41) rfl rfl ?_
    refine Y_isub 24 rfl (pc2 := 42) rfl ?_
    refine Y_abs (y := 0) 25 rfl (pc2 := 45) rfl lk_li_45 jd_abs_s jd_mi jd_abs_c (by decide) (Nat.le_of_ble_eq_true rfl) ?_
    refine Y_top (ab_ _ (kq_is w hl hf ht R (by omega)).2 _ (kq_is w hl hf ht R (by omega)).2) ?_
    refine Y_iadd 26 rfl (pc2 := 46) rfl ?_
    refine Y_top (nI_add _ _) ?_
    refine Y_istore_n 27 rfl (pc2 := 47) rfl (Nat.le_of_ble_eq_true rfl) (ls2 := [some (.ref _), some (.int _), some (.int _), some (.int _), some (.int _), some (.int _)]) rfl ?_
    refine Y_iload 28 rfl (pc2 := 49) rfl rfl ?_
    refine Y_istore_n 29 rfl (pc2 := 50) rfl (Nat.le_of_ble_eq_true rfl) (ls2 := [some (.ref _), some (.int _), some (.int _), some (.int _), some (.int _), some (.int _)]) rfl ?_
    refine Y_iinc 30 rfl (pc2 := 53) rfl rfl (nI_inc _ 1) (ls2 := [some (.ref _), some (.int _), some (.int _), some (.int _), some (.int _), some (.int _)]) rfl ?_
    refine Y_goto 31 rfl (pc2 := 15) (by decide) ?_
    exact ih (i + 1) (by omega) (by omega) _

set_option maxHeartbeats 400000 in
theorem T_li_innerLeaps {G : Nat × (Nat → Int32)} {m : Mm} {S : Mm} (h : RC m S) (w : WF S) {l f t : Nat} (hl : l < 4) (hf : f < 6) (ht : t < 7) (R : okF S l f) : Y G M_li_innerLeaps (0, 0) 0 (en_ M_li_innerLeaps [.ref (44 + 27 * l + 4 * f), .int (nI t)]) [] (LAY, m) (qm_ LAY (pu_ (nI (jn (kq S l f t) (2 ^ (l + 1) - 1))) m)) := by
  change Y _ _ _ _ [some (.ref _), some (.int _), none, none, none, none] _ _ _
  have hz := sz_16 hl
  have hz2 := sz_2 (l := l)
  refine Y_iconst 0 rfl (pc2 := 1) rfl (v := nI 0) (by decide) ?_
  refine Y_istore_n 1 rfl (pc2 := 2) rfl (Nat.le_of_ble_eq_true rfl) (ls2 := [some (.ref _), some (.int _), some (.int _), none, none, none]) rfl ?_
  refine Y_iload_n 2 rfl (pc2 := 3) rfl rfl ?_
  refine Y_aload_n 3 rfl (pc2 := 4) rfl rfl ?_
  refine Y_iconst 4 rfl (pc2 := 5) rfl (v := nI 0) (by decide) ?_
  refine Y_cV 5 rfl (pc2 := 8) rfl ok_fi_lineShift lk_li_37 vi_fi_lineShift (ly_fi (by omega) (by omega)) rfl (by decide) rfl (as := [.int _]) (rest := [.int _]) rfl rfl (T_fi_lineShift h w (by omega) (by omega) (by omega)) ?_
  rintro _ _ ⟨rfl, rfl⟩
  change Y _ _ _ _ _ [.int _, .int _] _ _
  refine Y_cS 6 rfl (pc2 := 11) rfl ok_gh_keyOf lk_li_41 vs_gh_keyOf (as := [.int _, .int _]) (rest := []) rfl rfl T_gh_keyOf ?_
  rintro _ _ ⟨rfl, rfl⟩
  change Y _ _ _ _ _ [.int _] _ _
  refine Y_top (kq_is w hl hf ht R (by omega)).1 ?_
  refine Y_istore_n 7 rfl (pc2 := 12) rfl (Nat.le_of_ble_eq_true rfl) (ls2 := [some (.ref _), some (.int _), some (.int _), some (.int _), none, none]) rfl ?_
  refine Y_iconst 8 rfl (pc2 := 13) rfl (v := nI 1) (by decide) ?_
  refine Y_istore 9 rfl (pc2 := 15) rfl (Nat.le_of_ble_eq_true rfl) (ls2 := [some (.ref _), some (.int _), some (.int _), some (.int _), some (.int _), none]) rfl ?_
  exact L_inner2 h w hl hf ht R 0 (Nat.zero_le _) _

def pL_ (m S : Mm) (l f : Nat) : Option Value → Mm → Prop := fun v m2 => v = none ∧ lF m m2 f ∧ LR m2 S l f
set_option maxHeartbeats 400000 in
theorem L_learn {G : Nat × (Nat → Int32)} {m : Mm} {S : Mm} (h0 : RC m S) (w : WF S) {l f : Nat} (hl : l < 4) (hf : f < 6) (R : okF S l f) : ∀ t, t ≤ 7 → ∀ m1, lF m m1 f → (∀ q, q < t → LRt m1 S l f q) → ∀ (u : Option Value), Y G M_li_learn (0, 0) 11 [some (.ref 14), some (.ref (44 + 27 * l + 4 * f)), some (.int (nI f)), some (.int (nI (2 ^ (l + 1) - 1))), some (.int (nI t)), u] [] (LAY, m1) (qm_ LAY (pL_ m S l f)) := by
  have hz := sz_16 hl
  have hz2 := sz_2 (l := l)
  refine ind_ (fun t ht0 ih m1 hF hD u => ?_)
  have h := RC_lF h0 hF
  refine Y_iload 8 rfl (pc2 := 13) rfl rfl ?_
  refine Y_bipush 9 rfl (pc2 := 15) rfl (v := nI 7) (by decide) ?_
  refine Y_icmp_gen 10 rfl (pc2 := 18) rfl (tgt := 80) (by decide) (by omega) (by omega) (fun h15 => ?_) (fun h15 => ?_)
  · refine Y_vret 44 rfl rfl ⟨rfl, ?_⟩
    exact ⟨rfl, hF, fun q hq => hD q (by omega)⟩
  · have ht : t < 7 := by omega
    refine Y_iload_n 11 rfl (pc2 := 19) rfl rfl ?_
    refine Y_bipush 12 rfl (pc2 := 21) rfl (v := nI 7) (by decide) ?_
    refine Y_imul 13 rfl (pc2 := 22) rfl ?_
    refine Y_top (nI_mul _ _) ?_
    refine Y_iload 14 rfl (pc2 := 24) rfl rfl ?_
    refine Y_iadd 15 rfl (pc2 := 25) rfl ?_
    refine Y_top (nI_add _ _) ?_
    refine Y_istore 16 rfl (pc2 := 27) rfl (Nat.le_of_ble_eq_true rfl) (ls2 := [some (.ref _), some (.ref _), some (.int _), some (.int _), some (.int _), some (.int _)]) rfl ?_
    refine Y_aload_n 17 rfl (pc2 := 28) rfl rfl ?_
    refine Y_getR 18 rfl (pc2 := 31) rfl fl_li_9 ly_li (by decide) rfl rfl (by omega) ?_
    refine Y_iload 19 rfl (pc2 := 33) rfl rfl ?_
    refine Y_aload_n 20 rfl (pc2 := 34) rfl rfl ?_
    refine Y_iload 21 rfl (pc2 := 36) rfl rfl ?_
    refine Y_cS 22 rfl (pc2 := 39) rfl ok_li_innerLeaps lk_li_33 vs_li_innerLeaps (as := [.ref _, .int _]) (rest := [.int _, .ref _]) rfl rfl (T_li_innerLeaps h w (by omega) (by omega) (by omega) R) ?_
    rintro _ _ ⟨rfl, rfl⟩
    change Y _ _ _ _ _ [.int _, .int _, .ref _] _ _
    refine Y_iast 23 rfl (pc2 := 40) rfl ly_liI rfl (by omega) (by decide) rfl ?_
    refine Y_aload_n 24 rfl (pc2 := 41) rfl rfl ?_
    refine Y_getR 25 rfl (pc2 := 44) rfl fl_li_15 ly_li (by decide) rfl rfl (by omega) ?_
    refine Y_iload 26 rfl (pc2 := 46) rfl rfl ?_
    refine Y_iload 27 rfl (pc2 := 48) rfl rfl ?_
    refine Y_aload_n 28 rfl (pc2 := 49) rfl rfl ?_
    refine Y_iconst 29 rfl (pc2 := 50) rfl (v := nI 0) (by decide) ?_
    refine Y_cV 30 rfl (pc2 := 53) rfl ok_fi_lineShift lk_li_37 vi_fi_lineShift (ly_fi (by omega) (by omega)) rfl (by decide) rfl (as := [.int _]) (rest := [.int _, .int _, .ref _]) rfl rfl (T_fi_lineShift (RC_uw (by unfold scr; omega) h) w (by omega) (by omega) (by omega)) ?_
    rintro _ _ ⟨rfl, rfl⟩
    change Y _ _ _ _ _ [.int _, .int _, .int _, .ref _] _ _
    refine Y_cS 31 rfl (pc2 := 56) rfl ok_gh_keyOf lk_li_41 vs_gh_keyOf (as := [.int _, .int _]) (rest := [.int _, .ref _]) rfl rfl T_gh_keyOf ?_
    rintro _ _ ⟨rfl, rfl⟩
    change Y _ _ _ _ _ [.int _, .int _, .ref _] _ _
    refine Y_top (kq_is w hl hf ht R (by omega)).1 ?_
    refine Y_iast 32 rfl (pc2 := 57) rfl ly_liF rfl (by omega) (by decide) rfl ?_
    refine Y_aload_n 33 rfl (pc2 := 58) rfl rfl ?_
    refine Y_getR 34 rfl (pc2 := 61) rfl fl_li_18 ly_li (by decide) rfl rfl (by omega) ?_
    refine Y_iload 35 rfl (pc2 := 63) rfl rfl ?_
    refine Y_iload 36 rfl (pc2 := 65) rfl rfl ?_
    refine Y_aload_n 37 rfl (pc2 := 66) rfl rfl ?_
    refine Y_iload_n 38 rfl (pc2 := 67) rfl rfl ?_
    refine Y_cV 39 rfl (pc2 := 70) rfl ok_fi_lineShift lk_li_37 vi_fi_lineShift (ly_fi (by omega) (by omega)) rfl (by decide) rfl (as := [.int _]) (rest := [.int _, .int _, .ref _]) rfl rfl (T_fi_lineShift (RC_uw (by unfold scr; omega) (RC_uw (by unfold scr; omega) h)) w (by omega) (by omega) (by omega)) ?_
    rintro _ _ ⟨rfl, rfl⟩
    change Y _ _ _ _ _ [.int _, .int _, .int _, .ref _] _ _
    refine Y_cS 40 rfl (pc2 := 73) rfl ok_gh_keyOf lk_li_41 vs_gh_keyOf (as := [.int _, .int _]) (rest := [.int _, .ref _]) rfl rfl T_gh_keyOf ?_
    rintro _ _ ⟨rfl, rfl⟩
    change Y _ _ _ _ _ [.int _, .int _, .ref _] _ _
    refine Y_top (kq_is w hl hf ht R (by omega)).1 ?_
    refine Y_iast 41 rfl (pc2 := 74) rfl ly_liL rfl (by omega) (by decide) rfl ?_
    refine Y_iinc 42 rfl (pc2 := 77) rfl rfl (nI_inc _ 1) (ls2 := [some (.ref _), some (.ref _), some (.int _), some (.int _), some (.int _), some (.int _)]) rfl ?_
    refine Y_goto 43 rfl (pc2 := 11) (by decide) ?_
    refine ih (t + 1) (by omega) (by omega) _ (fun a k hk => ?_) (fun q hq => ?_) _
    · rw [uw_ne (by omega), uw_ne (by omega), uw_ne (by omega)]
      exact hF a k hk
    · by_cases e : q = t
      · subst e
        exact ⟨by rw [uw_ne (by omega), uw_ne (by omega), uw_same], by rw [uw_ne (by omega), uw_same], by rw [uw_same]⟩
      · obtain ⟨p1, p2, p3⟩ := hD q (by omega)
        exact ⟨by rw [uw_ne (by omega), uw_ne (by omega), uw_ne (by omega)]; exact p1, by rw [uw_ne (by omega), uw_ne (by omega), uw_ne (by omega)]; exact p2, by rw [uw_ne (by omega), uw_ne (by omega), uw_ne (by omega)]; exact p3⟩

set_option maxHeartbeats 400000 in
theorem T_li_learn {G : Nat × (Nat → Int32)} {m : Mm} {S : Mm} (h : RC m S) (w : WF S) {l f : Nat} (hl : l < 4) (hf : f < 6) (R : okF S l f) : Y G M_li_learn (0, 0) 0 (en_ M_li_learn [.ref (14), .ref (44 + 27 * l + 4 * f), .int (nI f)]) [] (LAY, m) (qm_ LAY (pL_ m S l f)) := by
  change Y _ _ _ _ [some (.ref _), some (.ref _), some (.int _), none, none, none] _ _ _
  have hz := sz_16 hl
  have hz2 := sz_2 (l := l)
  refine Y_aload_n 0 rfl (pc2 := 1) rfl rfl ?_
  refine Y_getR 1 rfl (pc2 := 4) rfl fl_li_28 (ly_fi (by omega) (by omega)) (by decide) rfl rfl (by omega) ?_
  refine Y_alen_i 2 rfl (pc2 := 5) rfl (ly_fiM (by omega) (by omega)) rfl ?_
  refine Y_iconst 3 rfl (pc2 := 6) rfl (v := nI 1) (by decide) ?_
  refine Y_isub 4 rfl (pc2 := 7) rfl ?_
  refine Y_top (nI_sub (by omega)) ?_
  refine Y_istore_n 5 rfl (pc2 := 8) rfl (Nat.le_of_ble_eq_true rfl) (ls2 := [some (.ref _), some (.ref _), some (.int _), some (.int _), none, none]) rfl ?_
  refine Y_iconst 6 rfl (pc2 := 9) rfl (v := nI 0) (by decide) ?_
  refine Y_istore 7 rfl (pc2 := 11) rfl (Nat.le_of_ble_eq_true rfl) (ls2 := [some (.ref _), some (.ref _), some (.int _), some (.int _), some (.int _), none]) rfl ?_
  exact L_learn h w hl hf R 0 (Nat.zero_le _) m (fun a k _ => rfl) (fun q hq => absurd hq (Nat.not_lt_zero q)) _

def th3 (a b c i : Nat) : Nat := if i = 0 then a else if i = 1 then b else c
def Kb (S : Mm) (c l : Nat) (th : Nat → Nat) (b : Nat) : Nat → Nat := kq S l (th (turn S c b)) (nv (tone S c b))
def lps1 (S : Mm) (c l : Nat) (th : Nat → Nat) (b : Nat) : Nat := jn (Kb S c l th b) (2 ^ (l + 1) - 1) + ad (Kb S c l th b (2 ^ (l + 1) - 1)) (Kb S c l th (nxt (bt S c) b) 0)
def lps (S : Mm) (c l : Nat) (th : Nat → Nat) : Nat := su (lps1 S c l th) (bt S c)
def en (S : Mm) (c : Nat) (th : Nat → Nat) (b : Nat) : Nat := th (turn S c b) * 7 + nv (tone S c b)
set_option maxHeartbeats 400000 in
theorem tone_nI {S : Mm} (w : WF S) {c b : Nat} (hc : c < 4) (hb : b < bt S c) : tone S c b = nI (nv (tone S c b)) ∧ nv (tone S c b) < 7 := by
  obtain ⟨k, hk, e⟩ := tone_iR w hc hb
  rw [e, nv_nI (by omega)]
  exact ⟨rfl, hk⟩

set_option maxHeartbeats 400000 in
theorem T_li_entryOf {G : Nat × (Nat → Int32)} {m : Mm} {S : Mm} (h : RC m S) (w : WF S) {c : Nat} {th : Nat → Nat} (hc : c < 4) (hth : ∀ i, i < 3 → th i < 6) (hch : ∀ i, i < 3 → m 18 i = nI (th i)) {b : Nat} (hb : b < bt S c) : Y G M_li_entryOf (0, 0) 0 (en_ M_li_entryOf [.ref (14), .ref (21 + 5 * c), .int (nI b)]) [] (LAY, m) (qm_ LAY (pu_ (nI (en S c th b)) m)) := by
  change Y _ _ _ _ [some (.ref _), some (.ref _), some (.int _)] _ _ _
  have hn := (w.b c hc).2
  have ht3 : turn S c b < 3 := turn_lt
  refine Y_aload_n 0 rfl (pc2 := 1) rfl rfl ?_
  refine Y_getR 1 rfl (pc2 := 4) rfl fl_li_21 ly_li (by decide) rfl rfl (by omega) ?_
  refine Y_aload_n 2 rfl (pc2 := 5) rfl rfl ?_
  refine Y_getR 3 rfl (pc2 := 8) rfl fl_li_63 (ly_ci (by omega)) (by decide) rfl rfl (by omega) ?_
  refine Y_iload_n 4 rfl (pc2 := 9) rfl rfl ?_
  refine Y_iald 5 rfl (pc2 := 10) rfl (ly_ciU (by omega)) rfl (by omega) (by decide) ?_
  refine Y_top (h.u c b hc hb) ?_
  refine Y_iald 6 rfl (pc2 := 11) rfl ly_liC rfl (by omega) (by decide) ?_
  refine Y_top (hch _ (by omega)) ?_
  refine Y_bipush 7 rfl (pc2 := 13) rfl (v := nI 7) (by decide) ?_
  refine Y_imul 8 rfl (pc2 := 14) rfl ?_
  refine Y_top (nI_mul _ _) ?_
  refine Y_aload_n 9 rfl (pc2 := 15) rfl rfl ?_
  refine Y_getR 10 rfl (pc2 := 18) rfl fl_li_66 (ly_ci (by omega)) (by decide) rfl rfl (by omega) ?_
  refine Y_iload_n 11 rfl (pc2 := 19) rfl rfl ?_
  refine Y_iald 12 rfl (pc2 := 20) rfl (ly_ciT (by omega)) rfl (by omega) (by decide) ?_
  refine Y_top ((h.t c b hc hb).trans (tone_nI w hc hb).1) ?_
  refine Y_iadd 13 rfl (pc2 := 21) rfl ?_
  refine Y_top (nI_add _ _) ?_
  refine Y_iret 14 rfl rfl rfl ⟨rfl, ?_⟩
  exact pu_i rfl

set_option maxHeartbeats 400000 in
theorem L_leaps {G : Nat × (Nat → Int32)} {m : Mm} {S : Mm} (h : RC m S) (w : WF S) {c : Nat} {th : Nat → Nat} (hc : c < 4) (hth : ∀ i, i < 3 → th i < 6) {l : Nat} (hl : l < 4) (hok : ∀ i, i < 3 → okF S l (th i)) (hLR : ∀ i, i < 3 → LR m S l (th i)) (hch : ∀ i, i < 3 → m 18 i = nI (th i)) {x y z : Int32} : ∀ i, i ≤ bt S c → ∀ (u : Option Value), Y G M_li_leapsWith (0, 0) 36 [some (.ref 14), some (.ref (21 + 5 * c)), some (.int x), some (.int y), some (.int z), some (.int (nI (su (lps1 S c l th) i))), some (.int (nI (en S c th (if i < bt S c then i else 0)))), some (.int (nI i)), u] [] (LAY, m) (qm_ LAY (pu_ (nI (lps S c l th)) m)) := by
  have hn := (w.b c hc).2
  have hz2 := sz_2 (l := l)
  have hz := sz_16 hl
  refine ind_ (fun i hi ih u => ?_)
  refine Y_iload 24 rfl (pc2 := 38) rfl rfl ?_
  refine Y_aload_n 25 rfl (pc2 := 39) rfl rfl ?_
  refine Y_getI 26 rfl (pc2 := 42) rfl fl_li_54 (ly_ci (by omega)) (by decide) rfl ?_
  refine Y_top ((h.b _ (by omega)).trans (w.b _ (by omega)).1) ?_
  refine Y_icmp_gen 27 rfl (pc2 := 45) rfl (tgt := 99) (by decide) (by omega) (by omega) (fun h42 => ?_) (fun h42 => ?_)
  · refine Y_iload 57 rfl (pc2 := 101) rfl rfl ?_
    refine Y_iret 58 rfl rfl rfl ⟨rfl, ?_⟩
    exact pu_i (by rw [show i = bt S c by omega]; rfl)
  · rw [show (if i < bt S c then i else 0) = i from if_pos (by omega)]
    have hx : nxt (bt S c) i < bt S c := nxt_lt (by omega)
    have hen : en S c th i < 42 := by have a := hth _ (turn_lt (S := S) (c := c) (b := i)); have b := (tone_nI w hc (b := i) (by omega)).2; unfold en; omega
    have hen2 : en S c th (nxt (bt S c) i) < 42 := by have a := hth _ (turn_lt (S := S) (c := c) (b := nxt (bt S c) i)); have b := (tone_nI w hc hx).2; unfold en; omega
    refine Y_aload_n 28 rfl (pc2 := 46) rfl rfl ?_
    refine Y_aload_n 29 rfl (pc2 := 47) rfl rfl ?_
    refine Y_aload_n 30 rfl (pc2 := 48) rfl rfl ?_
    refine Y_iload 31 rfl (pc2 := 50) rfl rfl ?_
    refine Y_cV 32 rfl (pc2 := 53) rfl ok_ci_beatBehind lk_li_60 vi_ci_beatBehind (ly_ci (by omega)) rfl (by decide) rfl (as := [.int _]) (rest := [.ref _, .ref _]) rfl rfl (T_ci_beatBehind h w (by omega) (by omega)) ?_
    rintro _ _ ⟨rfl, rfl⟩
    change Y _ _ _ _ _ [.int _, .ref _, .ref _] _ _
    refine Y_cV 33 rfl (pc2 := 56) rfl ok_li_entryOf lk_li_50 vi_li_entryOf ly_li rfl (by decide) rfl (as := [.ref _, .int _]) (rest := []) rfl rfl (T_li_entryOf h w (by omega) hth hch (by omega)) ?_
    rintro _ _ ⟨rfl, rfl⟩
    change Y _ _ _ _ _ [.int _] _ _
    refine Y_istore 34 rfl (pc2 := 58) rfl (Nat.le_of_ble_eq_true rfl) (ls2 := [some (.ref _), some (.ref _), some (.int _), some (.int _), some (.int _), some (.int _), some (.int _), some (.int _), some (.int _)]) rfl ?_
    refine Y_iload 35 rfl (pc2 := 60) rfl rfl ?_
    refine Y_aload_n 36 rfl (pc2 := 61) rfl rfl ?_
    refine Y_getR 37 rfl (pc2 := 64) rfl fl_li_9 ly_li (by decide) rfl rfl (by omega) ?_
    refine Y_iload 38 rfl (pc2 := 66) rfl rfl ?_
    refine Y_iald 39 rfl (pc2 := 67) rfl ly_liI rfl (by omega) (by decide) ?_
    refine Y_top ((hLR _ (turn_lt) _ (tone_nI w hc (by omega)).2).1) ?_
    refine Y_aload_n 40 rfl (pc2 := 68) rfl rfl ?_
    refine Y_getR 41 rfl (pc2 := 71) rfl fl_li_15 ly_li (by decide) rfl rfl (by omega) ?_
    refine Y_iload 42 rfl (pc2 := 73) rfl rfl ?_
    refine Y_iald 43 rfl (pc2 := 74) rfl ly_liF rfl (by omega) (by decide) ?_
    refine Y_top ((hLR _ (turn_lt) _ (tone_nI w hc hx).2).2.1) ?_
    refine Y_aload_n 44 rfl (pc2 := 75) rfl rfl ?_
    refine Y_getR 45 rfl (pc2 := 78) rfl fl_li_18 ly_li (by decide) rfl rfl (by omega) ?_
    refine Y_iload 46 rfl (pc2 := 80) rfl rfl ?_
    refine Y_iald 47 rfl (pc2 := 81) rfl ly_liL rfl (by omega) (by decide) ?_
    refine Y_top ((hLR _ (turn_lt) _ (tone_nI w hc (by omega)).2).2.2) ?_
    refine Y_isub 48 rfl (pc2 := 82) rfl ?_
    refine Y_abs (y := 0) 49 rfl (pc2 := 85) rfl lk_li_45 jd_abs_s jd_mi jd_abs_c (by decide) (Nat.le_of_ble_eq_true rfl) ?_
    refine Y_top (ab_ _ (kq_is w hl (hth _ turn_lt) (tone_nI w hc hx).2 (hok _ turn_lt) (by omega)).2 _ (kq_is w hl (hth _ turn_lt) (tone_nI w hc (by omega)).2 (hok _ turn_lt) (by omega)).2) ?_
    refine Y_iadd 50 rfl (pc2 := 86) rfl ?_
    refine Y_top (nI_add _ _) ?_
    refine Y_iadd 51 rfl (pc2 := 87) rfl ?_
    refine Y_top (nI_add _ _) ?_
    refine Y_istore 52 rfl (pc2 := 89) rfl (Nat.le_of_ble_eq_true rfl) (ls2 := [some (.ref _), some (.ref _), some (.int _), some (.int _), some (.int _), some (.int _), some (.int _), some (.int _), some (.int _)]) rfl ?_
    refine Y_iload 53 rfl (pc2 := 91) rfl rfl ?_
    refine Y_istore 54 rfl (pc2 := 93) rfl (Nat.le_of_ble_eq_true rfl) (ls2 := [some (.ref _), some (.ref _), some (.int _), some (.int _), some (.int _), some (.int _), some (.int _), some (.int _), some (.int _)]) rfl ?_
    refine Y_iinc 55 rfl (pc2 := 96) rfl rfl (nI_inc _ 1) (ls2 := [some (.ref _), some (.ref _), some (.int _), some (.int _), some (.int _), some (.int _), some (.int _), some (.int _), some (.int _)]) rfl ?_
    refine Y_goto 56 rfl (pc2 := 36) (by decide) ?_
    by_cases e : i + 1 < bt S c
    · have hi2 := ih (i + 1) (by omega) (by omega) (some (.int (nI (en S c th (nxt (bt S c) i)))))
      rw [show nxt (bt S c) i = i + 1 from if_pos e] at hi2 ⊢
      rw [if_pos e] at hi2
      refine Y_ls ?_ hi2
      rw [show su (lps1 S c l th) (i + 1) = su (lps1 S c l th) i + lps1 S c l th i from rfl]
      unfold lps1 Kb
      rw [show nxt (bt S c) i = i + 1 from if_pos e]
    · have hi2 := ih (i + 1) (by omega) (by omega) (some (.int (nI (en S c th (nxt (bt S c) i)))))
      rw [if_neg e] at hi2
      rw [show nxt (bt S c) i = 0 from if_neg e] at hi2 ⊢
      refine Y_ls ?_ hi2
      rw [show su (lps1 S c l th) (i + 1) = su (lps1 S c l th) i + lps1 S c l th i from rfl]
      unfold lps1 Kb
      rw [show nxt (bt S c) i = 0 from if_neg e]

def eq18 (m m' : Mm) : Prop := ∀ a, ¬ a = 18 → m' a = m a
def p18 (x : Int32) (m : Mm) : Option Value → Mm → Prop := fun v m' => v = some (.int x) ∧ eq18 m m'
set_option maxHeartbeats 400000 in
theorem RC_18 {m m' S : Mm} (h : RC m S) (e : eq18 m m') : RC m' S := h.mono (fun a ha _ => e a (by intro q; apply ha; unfold scr; omega))
set_option maxHeartbeats 400000 in
theorem LR_18 {m m' S : Mm} {l f : Nat} (h : LR m S l f) (e : eq18 m m') : LR m' S l f := by
  intro t ht
  unfold LRt
  rw [e 15 (by omega), e 16 (by omega), e 17 (by omega)]
  exact h t ht
set_option maxHeartbeats 400000 in
theorem th3_lt {a b d i n : Nat} (ha : a < n) (hb : b < n) (hd : d < n) : th3 a b d i < n := by
  unfold th3
  split
  · exact ha
  · split
    · exact hb
    · exact hd
set_option maxHeartbeats 400000 in
theorem th3_all {P : Nat → Prop} {a b d : Nat} (ha : P a) (hb : P b) (hd : P d) (i : Nat) : P (th3 a b d i) := by
  unfold th3
  split
  · exact ha
  · split
    · exact hb
    · exact hd

set_option maxHeartbeats 400000 in
theorem T_li_leapsWith {G : Nat × (Nat → Int32)} {m : Mm} {S : Mm} (h : RC m S) (w : WF S) {c l a b d : Nat} (hc : c < 4) (hl : l < 4) (ha : a < 6) (hb : b < 6) (hd : d < 6) (oa : okF S l a) (ob : okF S l b) (od : okF S l d) (La : LR m S l a) (Lb : LR m S l b) (Ld : LR m S l d) : Y G M_li_leapsWith (0, 0) 0 (en_ M_li_leapsWith [.ref (14), .ref (21 + 5 * c), .int (nI a), .int (nI b), .int (nI d)]) [] (LAY, m) (qm_ LAY (p18 (nI (lps S c l (th3 a b d))) m)) := by
  change Y _ _ _ _ [some (.ref _), some (.ref _), some (.int _), some (.int _), some (.int _), none, none, none, none] _ _ _
  have hn := (w.b c hc).2
  refine Y_aload_n 0 rfl (pc2 := 1) rfl rfl ?_
  refine Y_getR 1 rfl (pc2 := 4) rfl fl_li_21 ly_li (by decide) rfl rfl (by omega) ?_
  refine Y_iconst 2 rfl (pc2 := 5) rfl (v := nI 0) (by decide) ?_
  refine Y_iload_n 3 rfl (pc2 := 6) rfl rfl ?_
  refine Y_iast 4 rfl (pc2 := 7) rfl ly_liC rfl (by omega) (by decide) rfl ?_
  refine Y_aload_n 5 rfl (pc2 := 8) rfl rfl ?_
  refine Y_getR 6 rfl (pc2 := 11) rfl fl_li_21 ly_li (by decide) rfl rfl (by omega) ?_
  refine Y_iconst 7 rfl (pc2 := 12) rfl (v := nI 1) (by decide) ?_
  refine Y_iload_n 8 rfl (pc2 := 13) rfl rfl ?_
  refine Y_iast 9 rfl (pc2 := 14) rfl ly_liC rfl (by omega) (by decide) rfl ?_
  refine Y_aload_n 10 rfl (pc2 := 15) rfl rfl ?_
  refine Y_getR 11 rfl (pc2 := 18) rfl fl_li_21 ly_li (by decide) rfl rfl (by omega) ?_
  refine Y_iconst 12 rfl (pc2 := 19) rfl (v := nI 2) (by decide) ?_
  refine Y_iload 13 rfl (pc2 := 21) rfl rfl ?_
  refine Y_iast 14 rfl (pc2 := 22) rfl ly_liC rfl (by omega) (by decide) rfl ?_
  generalize hm2 : uw_ (uw_ (uw_ m 18 0 (nI a)) 18 1 (nI b)) 18 2 (nI d) = m2
  have e18 : eq18 m m2 := fun q hq => by rw [← hm2]; funext k; rw [uw_ne (by omega), uw_ne (by omega), uw_ne (by omega)]
  have hch : ∀ i, i < 3 → m2 18 i = nI (th3 a b d i) := by
    intro i hi
    have hi3 : i = 0 ∨ i = 1 ∨ i = 2 := by omega
    rw [← hm2]
    rcases hi3 with rfl | rfl | rfl
    · rw [uw_ne (by omega), uw_ne (by omega), uw_same]; rfl
    · rw [uw_ne (by omega), uw_same]; rfl
    · rw [uw_same]; rfl
  have h2 := RC_18 h e18
  have hth : ∀ i, i < 3 → th3 a b d i < 6 := fun i _ => th3_lt ha hb hd
  refine Y_iconst 15 rfl (pc2 := 23) rfl (v := nI 0) (by decide) ?_
  refine Y_istore 16 rfl (pc2 := 25) rfl (Nat.le_of_ble_eq_true rfl) (ls2 := [some (.ref _), some (.ref _), some (.int _), some (.int _), some (.int _), some (.int _), none, none, none]) rfl ?_
  refine Y_aload_n 17 rfl (pc2 := 26) rfl rfl ?_
  refine Y_aload_n 18 rfl (pc2 := 27) rfl rfl ?_
  refine Y_iconst 19 rfl (pc2 := 28) rfl (v := nI 0) (by decide) ?_
  refine Y_cV 20 rfl (pc2 := 31) rfl ok_li_entryOf lk_li_50 vi_li_entryOf ly_li rfl (by decide) rfl (as := [.ref _, .int _]) (rest := []) rfl rfl (T_li_entryOf h2 w (by omega) hth hch (by omega)) ?_
  rintro _ _ ⟨rfl, rfl⟩
  change Y _ _ _ _ _ [.int _] _ _
  refine Y_istore 21 rfl (pc2 := 33) rfl (Nat.le_of_ble_eq_true rfl) (ls2 := [some (.ref _), some (.ref _), some (.int _), some (.int _), some (.int _), some (.int _), some (.int _), none, none]) rfl ?_
  refine Y_iconst 22 rfl (pc2 := 34) rfl (v := nI 0) (by decide) ?_
  refine Y_istore 23 rfl (pc2 := 36) rfl (Nat.le_of_ble_eq_true rfl) (ls2 := [some (.ref _), some (.ref _), some (.int _), some (.int _), some (.int _), some (.int _), some (.int _), some (.int _), none]) rfl ?_
  have hl2 := L_leaps (G := G) h2 w hc hth hl (fun i _ => th3_all (P := okF S l) oa ob od i) (fun i _ => th3_all (P := LR m2 S l) (LR_18 La e18) (LR_18 Lb e18) (LR_18 Ld e18) i) hch (x := nI a) (y := nI b) (z := nI d) 0 (Nat.zero_le _) none
  rw [show (if 0 < bt S c then 0 else 0) = 0 from if_pos (by omega)] at hl2
  exact hl2.mono (fun v σ hq => ⟨hq.1, hq.2.1, fun q hq2 => by rw [← hq.2.2]; exact e18 q hq2⟩)

def us3 (S : Mm) (l k : Nat) : Prop := okF S l (k / 36) ∧ okF S l (k / 6 % 6) ∧ okF S l (k % 6)
def vk (S : Mm) (c l k : Nat) : Nat := lps S c l (th3 (k / 36) (k / 6 % 6) (k % 6))
def cd3 (k : Nat) : Nat := 100 * (k / 36) + 10 * (k / 6 % 6) + k % 6
noncomputable def bst (S : Mm) (c l : Nat) : Nat → Option (Nat × Nat)
  | 0 => none
  | k + 1 => cI (us3 S l k) (match bst S c l k with
    | none => some (vk S c l k, cd3 k)
    | some q => if vk S c l k < q.1 then some (vk S c l k, cd3 k) else some q) (bst S c l k)
set_option maxHeartbeats 400000 in
theorem bst_no {S : Mm} {c l k : Nat} (h : ¬ us3 S l k) : bst S c l (k + 1) = bst S c l k := cI_f h
set_option maxHeartbeats 400000 in
theorem bst_new {S : Mm} {c l k : Nat} (h : us3 S l k) (e : bst S c l k = none) : bst S c l (k + 1) = some (vk S c l k, cd3 k) := by
  show cI _ _ _ = _
  rw [cI_t h, e]
set_option maxHeartbeats 400000 in
theorem bst_lt {S : Mm} {c l k : Nat} {q : Nat × Nat} (h : us3 S l k) (e : bst S c l k = some q) (hl : vk S c l k < q.1) : bst S c l (k + 1) = some (vk S c l k, cd3 k) := by
  show cI _ _ _ = _
  rw [cI_t h, e]
  exact if_pos hl
set_option maxHeartbeats 400000 in
theorem bst_ge {S : Mm} {c l k : Nat} {q : Nat × Nat} (h : us3 S l k) (e : bst S c l k = some q) (hl : ¬ vk S c l k < q.1) : bst S c l (k + 1) = some q := by
  show cI _ _ _ = _
  rw [cI_t h, e]
  exact if_neg hl
set_option maxHeartbeats 400000 in
theorem lps_le {S : Mm} (w : WF S) {c l : Nat} {th : Nat → Nat} (hc : c < 4) (hl : l < 4) (hth : ∀ i, i < 3 → th i < 6) (hok : ∀ i, i < 3 → okF S l (th i)) : lps S c l th ≤ 4608 := by
  have hn := (w.b c hc).2
  have hz := sz_16 hl
  have hz2 := sz_2 (l := l)
  have hk : ∀ b s, b < bt S c → s < 2 ^ (l + 1) → Kb S c l th b s ≤ 9 := by
    intro b s hb hs
    have := (kq_is w hl (hth _ turn_lt) (tone_nI w hc hb).2 (hok _ (turn_lt (S := S) (c := c) (b := b))) hs).2
    unfold Kb
    omega
  have h1 : ∀ b, b < bt S c → lps1 S c l th b ≤ 144 := by
    intro b hb
    have a := jn_le (k := Kb S c l th b) (B := 9) (2 ^ (l + 1) - 1) (fun i hi => hk b i hb (by omega))
    have d := ad_le (B := 9) (hk b (2 ^ (l + 1) - 1) hb (by omega)) (hk (nxt (bt S c) b) 0 (nxt_lt (by omega)) (by omega))
    unfold lps1
    have : (2 ^ (l + 1) - 1) * 9 ≤ 135 := by omega
    omega
  have := su_le (f := lps1 S c l th) (B := 144) (bt S c) h1
  unfold lps
  have : bt S c * 144 ≤ 32 * 144 := Nat.mul_le_mul_right _ hn.2
  omega
set_option maxHeartbeats 400000 in
theorem vk_le {S : Mm} (w : WF S) {c l k : Nat} (hc : c < 4) (hl : l < 4) (hk : k < 216) (h : us3 S l k) : vk S c l k ≤ 4608 :=
  lps_le w hc hl (fun i _ => th3_lt (by omega) (by omega) (by omega)) (fun i _ => th3_all (P := okF S l) h.1 h.2.1 h.2.2 i)
set_option maxHeartbeats 400000 in
theorem bst_le {S : Mm} (w : WF S) {c l : Nat} (hc : c < 4) (hl : l < 4) : ∀ k, k ≤ 216 → ∀ q, bst S c l k = some q → q.1 ≤ 4608
  | 0, _, q, h => by cases h
  | k + 1, hk, q, h => by
    by_cases u : us3 S l k
    · cases e : bst S c l k with
      | none => rw [bst_new u e] at h; cases h; exact vk_le w hc hl (by omega) u
      | some p =>
        by_cases hlt : vk S c l k < p.1
        · rw [bst_lt u e hlt] at h; cases h; exact vk_le w hc hl (by omega) u
        · rw [bst_ge u e hlt] at h; cases h; exact bst_le w hc hl k (by omega) _ e
    · rw [bst_no u] at h
      exact bst_le w hc hl k (by omega) q h
def bB (q : Option (Nat × Nat)) : Int32 := match q with
  | none => NO_
  | some p => nI p.2
def bL (q : Option (Nat × Nat)) : Int32 := match q with
  | none => 2147483647
  | some p => nI p.1

set_option maxHeartbeats 400000 in
theorem nI_max {v : Nat} (h : v ≤ 4608) : nI v < 2147483647 := by
  rw [Int32.lt_iff_toInt_lt, nI_toInt (by omega)]
  have : (2147483647 : Int32).toInt = 2147483647 := by decide
  rw [this]; omega
set_option maxHeartbeats 400000 in
theorem L_least {G : Nat × (Nat → Int32)} {m : Mm} {S : Mm} (h0 : RC m S) (w : WF S) {c l : Nat} (hc : c < 4) (hl : l < 4) (hU : ∀ f, f < 6 → m 19 f = bI (okF S l f)) (hL : ∀ f, f < 6 → okF S l f → LR m S l f) : ∀ k, k ≤ 216 → ∀ m1, eq18 m m1 → ∀ (u1 u2 u3 u4 : Option Value), Y G M_li_leastLeaping (0, 0) 9 [some (.ref 14), some (.ref (21 + 5 * c)), some (.int (bB (bst S c l k))), some (.int (bL (bst S c l k))), some (.int (nI k)), u1, u2, u3, u4] [] (LAY, m1) (qm_ LAY (p18 (bB (bst S c l 216)) m)) := by
  refine ind_ (fun k hk ih m1 hE u1 u2 u3 u4 => ?_)
  have h := RC_18 h0 hE
  have hU1 : ∀ f, f < 6 → m1 19 f = bI (okF S l f) := fun f hf => by rw [hE 19 (by omega)]; exact hU f hf
  cases hb : bst S c l k with
  | none =>
    change Y _ _ _ _ [_, _, some (.int NO_), some (.int 2147483647), _, _, _, _, _] _ _ _
    refine Y_iload 6 rfl (pc2 := 11) rfl rfl ?_
    refine Y_sipush 7 rfl (pc2 := 14) rfl (v := nI 216) (by decide) ?_
    refine Y_icmp_gen 8 rfl (pc2 := 17) rfl (tgt := 114) (by decide) (by omega) (by omega) (fun h14 => ?_) (fun h14 => ?_)
    · refine Y_iload_n 62 rfl (pc2 := 115) rfl rfl ?_
      refine Y_iret 63 rfl rfl rfl ⟨rfl, ?_⟩
      exact ⟨by rw [show 216 = k by omega, hb]; rfl, hE⟩
    · refine Y_iload 9 rfl (pc2 := 19) rfl rfl ?_
      refine Y_bipush 10 rfl (pc2 := 21) rfl (v := nI 36) (by decide) ?_
      refine Y_idiv 11 rfl (pc2 := 22) rfl (by exact nI_ne0 (by omega) (by omega)) ?_
      refine Y_top (nI_div (by omega) (by omega)) ?_
      refine Y_istore 12 rfl (pc2 := 24) rfl (Nat.le_of_ble_eq_true rfl) (ls2 := [some (.ref _), some (.ref _), some (.int _), some (.int _), some (.int _), some (.int _), _, _, _]) rfl ?_
      refine Y_iload 13 rfl (pc2 := 26) rfl rfl ?_
      refine Y_bipush 14 rfl (pc2 := 28) rfl (v := nI 6) (by decide) ?_
      refine Y_idiv 15 rfl (pc2 := 29) rfl (by exact nI_ne0 (by omega) (by omega)) ?_
      refine Y_top (nI_div (by omega) (by omega)) ?_
      refine Y_bipush 16 rfl (pc2 := 31) rfl (v := nI 6) (by decide) ?_
      refine Y_irem 17 rfl (pc2 := 32) rfl (by exact nI_ne0 (by omega) (by omega)) ?_
      refine Y_top (nI_rem (by omega) (by omega)) ?_
      refine Y_istore 18 rfl (pc2 := 34) rfl (Nat.le_of_ble_eq_true rfl) (ls2 := [some (.ref _), some (.ref _), some (.int _), some (.int _), some (.int _), some (.int _), some (.int _), _, _]) rfl ?_
      refine Y_iload 19 rfl (pc2 := 36) rfl rfl ?_
      refine Y_bipush 20 rfl (pc2 := 38) rfl (v := nI 6) (by decide) ?_
      refine Y_irem 21 rfl (pc2 := 39) rfl (by exact nI_ne0 (by omega) (by omega)) ?_
      refine Y_top (nI_rem (by omega) (by omega)) ?_
      refine Y_istore 22 rfl (pc2 := 41) rfl (Nat.le_of_ble_eq_true rfl) (ls2 := [some (.ref _), some (.ref _), some (.int _), some (.int _), some (.int _), some (.int _), some (.int _), some (.int _), _]) rfl ?_
      refine Y_aload_n 23 rfl (pc2 := 42) rfl rfl ?_
      refine Y_getR 24 rfl (pc2 := 45) rfl fl_li_24 ly_li (by decide) rfl rfl (by omega) ?_
      refine Y_iload 25 rfl (pc2 := 47) rfl rfl ?_
      refine Y_zald 26 rfl (pc2 := 48) rfl ly_liU rfl (by omega) (by decide) ?_
      refine Y_top (hU1 _ (by omega)) ?_
      refine Y_if_eqb 27 rfl (pc2 := 51) rfl (tgt := 108) (by decide) (fun h48 => ?_) (fun h48 => ?_)
      · refine Y_iinc 60 rfl (pc2 := 111) rfl rfl (nI_inc _ 1) (ls2 := [some (.ref _), some (.ref _), some (.int _), some (.int _), some (.int _), some (.int _), some (.int _), some (.int _), _]) rfl ?_
        refine Y_goto 61 rfl (pc2 := 9) (by decide) ?_
        first
          | exact (by
              have hi := ih (k + 1) (by omega) (by omega) m1 hE
              rw [bst_no (by rintro ⟨p1, p2, p3⟩; first | exact h48 p1 | exact h58 p2 | exact h68 p3), hb] at hi
              exact hi _ _ _ _)
          | exact (by
              have hi := ih (k + 1) (by omega) (by omega) m2 hE2
              rw [bst_new u3 hb] at hi
              exact hi _ _ _ _)
      · refine Y_aload_n 28 rfl (pc2 := 52) rfl rfl ?_
        refine Y_getR 29 rfl (pc2 := 55) rfl fl_li_24 ly_li (by decide) rfl rfl (by omega) ?_
        refine Y_iload 30 rfl (pc2 := 57) rfl rfl ?_
        refine Y_zald 31 rfl (pc2 := 58) rfl ly_liU rfl (by omega) (by decide) ?_
        refine Y_top (hU1 _ (by omega)) ?_
        refine Y_if_eqb 32 rfl (pc2 := 61) rfl (tgt := 108) (by decide) (fun h58 => ?_) (fun h58 => ?_)
        · refine Y_iinc 60 rfl (pc2 := 111) rfl rfl (nI_inc _ 1) (ls2 := [some (.ref _), some (.ref _), some (.int _), some (.int _), some (.int _), some (.int _), some (.int _), some (.int _), _]) rfl ?_
          refine Y_goto 61 rfl (pc2 := 9) (by decide) ?_
          first
            | exact (by
                have hi := ih (k + 1) (by omega) (by omega) m1 hE
                rw [bst_no (by rintro ⟨p1, p2, p3⟩; first | exact h48 p1 | exact h58 p2 | exact h68 p3), hb] at hi
                exact hi _ _ _ _)
            | exact (by
                have hi := ih (k + 1) (by omega) (by omega) m2 hE2
                rw [bst_new u3 hb] at hi
                exact hi _ _ _ _)
        · refine Y_aload_n 33 rfl (pc2 := 62) rfl rfl ?_
          refine Y_getR 34 rfl (pc2 := 65) rfl fl_li_24 ly_li (by decide) rfl rfl (by omega) ?_
          refine Y_iload 35 rfl (pc2 := 67) rfl rfl ?_
          refine Y_zald 36 rfl (pc2 := 68) rfl ly_liU rfl (by omega) (by decide) ?_
          refine Y_top (hU1 _ (by omega)) ?_
          refine Y_if_eqb 37 rfl (pc2 := 71) rfl (tgt := 108) (by decide) (fun h68 => ?_) (fun h68 => ?_)
          · refine Y_iinc 60 rfl (pc2 := 111) rfl rfl (nI_inc _ 1) (ls2 := [some (.ref _), some (.ref _), some (.int _), some (.int _), some (.int _), some (.int _), some (.int _), some (.int _), _]) rfl ?_
            refine Y_goto 61 rfl (pc2 := 9) (by decide) ?_
            first
              | exact (by
                  have hi := ih (k + 1) (by omega) (by omega) m1 hE
                  rw [bst_no (by rintro ⟨p1, p2, p3⟩; first | exact h48 p1 | exact h58 p2 | exact h68 p3), hb] at hi
                  exact hi _ _ _ _)
              | exact (by
                  have hi := ih (k + 1) (by omega) (by omega) m2 hE2
                  rw [bst_new u3 hb] at hi
                  exact hi _ _ _ _)
          · refine Y_aload_n 38 rfl (pc2 := 72) rfl rfl ?_
            refine Y_aload_n 39 rfl (pc2 := 73) rfl rfl ?_
            refine Y_iload 40 rfl (pc2 := 75) rfl rfl ?_
            refine Y_iload 41 rfl (pc2 := 77) rfl rfl ?_
            refine Y_iload 42 rfl (pc2 := 79) rfl rfl ?_
            refine Y_cV 43 rfl (pc2 := 82) rfl ok_li_leapsWith lk_li_73 vi_li_leapsWith ly_li rfl (by decide) rfl (as := [.ref _, .int _, .int _, .int _]) (rest := []) rfl rfl (T_li_leapsWith h w (a := k / 36) (b := k / 6 % 6) (d := k % 6) hc hl (by omega) (by omega) (by omega) h48 h58 h68 (LR_18 (hL _ (by omega) h48) hE) (LR_18 (hL _ (by omega) h58) hE) (LR_18 (hL _ (by omega) h68) hE)) ?_
            rintro _ m2 ⟨rfl, hm2⟩
            change Y _ _ _ _ _ [.int _] _ _
            have hE2 : eq18 m m2 := fun q hq => (hm2 q hq).trans (hE q hq)
            have u3 : us3 S l k := ⟨h48, h58, h68⟩
            have hvk := vk_le w hc hl (by omega) u3
            refine Y_istore 44 rfl (pc2 := 84) rfl (Nat.le_of_ble_eq_true rfl) (ls2 := [some (.ref _), some (.ref _), some (.int _), some (.int _), some (.int _), some (.int _), some (.int _), some (.int _), some (.int _)]) rfl ?_
            refine Y_iload 45 rfl (pc2 := 86) rfl rfl ?_
            refine Y_iload_n 46 rfl (pc2 := 87) rfl rfl ?_
            refine Y_icmp_ge 47 rfl (pc2 := 90) rfl (tgt := 108) (by decide) (fun h87 => ?_) (fun h87 => ?_)
            · exact absurd h87 (by rw [Int32.not_le]; exact nI_max (by have : lps S c l (th3 (k / 36) (k / 6 % 6) (k % 6)) ≤ 4608 := hvk; omega))
            · refine Y_iload 48 rfl (pc2 := 92) rfl rfl ?_
              refine Y_istore_n 49 rfl (pc2 := 93) rfl (Nat.le_of_ble_eq_true rfl) (ls2 := [some (.ref _), some (.ref _), some (.int _), some (.int _), some (.int _), some (.int _), some (.int _), some (.int _), some (.int _)]) rfl ?_
              refine Y_bipush 50 rfl (pc2 := 95) rfl (v := nI 100) (by decide) ?_
              refine Y_iload 51 rfl (pc2 := 97) rfl rfl ?_
              refine Y_imul 52 rfl (pc2 := 98) rfl ?_
              refine Y_top (nI_mul _ _) ?_
              refine Y_bipush 53 rfl (pc2 := 100) rfl (v := nI 10) (by decide) ?_
              refine Y_iload 54 rfl (pc2 := 102) rfl rfl ?_
              refine Y_imul 55 rfl (pc2 := 103) rfl ?_
              refine Y_top (nI_mul _ _) ?_
              refine Y_iadd 56 rfl (pc2 := 104) rfl ?_
              refine Y_top (nI_add _ _) ?_
              refine Y_iload 57 rfl (pc2 := 106) rfl rfl ?_
              refine Y_iadd 58 rfl (pc2 := 107) rfl ?_
              refine Y_top (nI_add _ _) ?_
              refine Y_istore_n 59 rfl (pc2 := 108) rfl (Nat.le_of_ble_eq_true rfl) (ls2 := [some (.ref _), some (.ref _), some (.int _), some (.int _), some (.int _), some (.int _), some (.int _), some (.int _), some (.int _)]) rfl ?_
              refine Y_iinc 60 rfl (pc2 := 111) rfl rfl (nI_inc _ 1) (ls2 := [some (.ref _), some (.ref _), some (.int _), some (.int _), some (.int _), some (.int _), some (.int _), some (.int _), some (.int _)]) rfl ?_
              refine Y_goto 61 rfl (pc2 := 9) (by decide) ?_
              first
                | exact (by
                    have hi := ih (k + 1) (by omega) (by omega) m1 hE
                    rw [bst_no (by rintro ⟨p1, p2, p3⟩; first | exact h48 p1 | exact h58 p2 | exact h68 p3), hb] at hi
                    exact hi _ _ _ _)
                | exact (by
                    have hi := ih (k + 1) (by omega) (by omega) m2 hE2
                    rw [bst_new u3 hb] at hi
                    exact hi _ _ _ _)
  | some q =>
    obtain ⟨lv, cd⟩ := q
    have hlv := bst_le w hc hl k hk _ hb
    change lv ≤ 4608 at hlv
    change Y _ _ _ _ [_, _, some (.int (nI cd)), some (.int (nI lv)), _, _, _, _, _] _ _ _
    refine Y_iload 6 rfl (pc2 := 11) rfl rfl ?_
    refine Y_sipush 7 rfl (pc2 := 14) rfl (v := nI 216) (by decide) ?_
    refine Y_icmp_gen 8 rfl (pc2 := 17) rfl (tgt := 114) (by decide) (by omega) (by omega) (fun h14 => ?_) (fun h14 => ?_)
    · refine Y_iload_n 62 rfl (pc2 := 115) rfl rfl ?_
      refine Y_iret 63 rfl rfl rfl ⟨rfl, ?_⟩
      exact ⟨by rw [show 216 = k by omega, hb]; rfl, hE⟩
    · refine Y_iload 9 rfl (pc2 := 19) rfl rfl ?_
      refine Y_bipush 10 rfl (pc2 := 21) rfl (v := nI 36) (by decide) ?_
      refine Y_idiv 11 rfl (pc2 := 22) rfl (by exact nI_ne0 (by omega) (by omega)) ?_
      refine Y_top (nI_div (by omega) (by omega)) ?_
      refine Y_istore 12 rfl (pc2 := 24) rfl (Nat.le_of_ble_eq_true rfl) (ls2 := [some (.ref _), some (.ref _), some (.int _), some (.int _), some (.int _), some (.int _), _, _, _]) rfl ?_
      refine Y_iload 13 rfl (pc2 := 26) rfl rfl ?_
      refine Y_bipush 14 rfl (pc2 := 28) rfl (v := nI 6) (by decide) ?_
      refine Y_idiv 15 rfl (pc2 := 29) rfl (by exact nI_ne0 (by omega) (by omega)) ?_
      refine Y_top (nI_div (by omega) (by omega)) ?_
      refine Y_bipush 16 rfl (pc2 := 31) rfl (v := nI 6) (by decide) ?_
      refine Y_irem 17 rfl (pc2 := 32) rfl (by exact nI_ne0 (by omega) (by omega)) ?_
      refine Y_top (nI_rem (by omega) (by omega)) ?_
      refine Y_istore 18 rfl (pc2 := 34) rfl (Nat.le_of_ble_eq_true rfl) (ls2 := [some (.ref _), some (.ref _), some (.int _), some (.int _), some (.int _), some (.int _), some (.int _), _, _]) rfl ?_
      refine Y_iload 19 rfl (pc2 := 36) rfl rfl ?_
      refine Y_bipush 20 rfl (pc2 := 38) rfl (v := nI 6) (by decide) ?_
      refine Y_irem 21 rfl (pc2 := 39) rfl (by exact nI_ne0 (by omega) (by omega)) ?_
      refine Y_top (nI_rem (by omega) (by omega)) ?_
      refine Y_istore 22 rfl (pc2 := 41) rfl (Nat.le_of_ble_eq_true rfl) (ls2 := [some (.ref _), some (.ref _), some (.int _), some (.int _), some (.int _), some (.int _), some (.int _), some (.int _), _]) rfl ?_
      refine Y_aload_n 23 rfl (pc2 := 42) rfl rfl ?_
      refine Y_getR 24 rfl (pc2 := 45) rfl fl_li_24 ly_li (by decide) rfl rfl (by omega) ?_
      refine Y_iload 25 rfl (pc2 := 47) rfl rfl ?_
      refine Y_zald 26 rfl (pc2 := 48) rfl ly_liU rfl (by omega) (by decide) ?_
      refine Y_top (hU1 _ (by omega)) ?_
      refine Y_if_eqb 27 rfl (pc2 := 51) rfl (tgt := 108) (by decide) (fun h48 => ?_) (fun h48 => ?_)
      · refine Y_iinc 60 rfl (pc2 := 111) rfl rfl (nI_inc _ 1) (ls2 := [some (.ref _), some (.ref _), some (.int _), some (.int _), some (.int _), some (.int _), some (.int _), some (.int _), _]) rfl ?_
        refine Y_goto 61 rfl (pc2 := 9) (by decide) ?_
        first
          | exact (by
              have hi := ih (k + 1) (by omega) (by omega) m1 hE
              rw [bst_no (by rintro ⟨p1, p2, p3⟩; first | exact h48 p1 | exact h58 p2 | exact h68 p3), hb] at hi
              exact hi _ _ _ _)
          | exact (by
              have hi := ih (k + 1) (by omega) (by omega) m2 hE2
              rw [bst_lt u3 hb (by show lps _ _ _ _ < lv; omega)] at hi
              exact hi _ _ _ _)
          | exact (by
              have hi := ih (k + 1) (by omega) (by omega) m2 hE2
              rw [bst_ge u3 hb (by show ¬ lps _ _ _ _ < lv; omega)] at hi
              exact hi _ _ _ _)
      · refine Y_aload_n 28 rfl (pc2 := 52) rfl rfl ?_
        refine Y_getR 29 rfl (pc2 := 55) rfl fl_li_24 ly_li (by decide) rfl rfl (by omega) ?_
        refine Y_iload 30 rfl (pc2 := 57) rfl rfl ?_
        refine Y_zald 31 rfl (pc2 := 58) rfl ly_liU rfl (by omega) (by decide) ?_
        refine Y_top (hU1 _ (by omega)) ?_
        refine Y_if_eqb 32 rfl (pc2 := 61) rfl (tgt := 108) (by decide) (fun h58 => ?_) (fun h58 => ?_)
        · refine Y_iinc 60 rfl (pc2 := 111) rfl rfl (nI_inc _ 1) (ls2 := [some (.ref _), some (.ref _), some (.int _), some (.int _), some (.int _), some (.int _), some (.int _), some (.int _), _]) rfl ?_
          refine Y_goto 61 rfl (pc2 := 9) (by decide) ?_
          first
            | exact (by
                have hi := ih (k + 1) (by omega) (by omega) m1 hE
                rw [bst_no (by rintro ⟨p1, p2, p3⟩; first | exact h48 p1 | exact h58 p2 | exact h68 p3), hb] at hi
                exact hi _ _ _ _)
            | exact (by
                have hi := ih (k + 1) (by omega) (by omega) m2 hE2
                rw [bst_lt u3 hb (by show lps _ _ _ _ < lv; omega)] at hi
                exact hi _ _ _ _)
            | exact (by
                have hi := ih (k + 1) (by omega) (by omega) m2 hE2
                rw [bst_ge u3 hb (by show ¬ lps _ _ _ _ < lv; omega)] at hi
                exact hi _ _ _ _)
        · refine Y_aload_n 33 rfl (pc2 := 62) rfl rfl ?_
          refine Y_getR 34 rfl (pc2 := 65) rfl fl_li_24 ly_li (by decide) rfl rfl (by omega) ?_
          refine Y_iload 35 rfl (pc2 := 67) rfl rfl ?_
          refine Y_zald 36 rfl (pc2 := 68) rfl ly_liU rfl (by omega) (by decide) ?_
          refine Y_top (hU1 _ (by omega)) ?_
          refine Y_if_eqb 37 rfl (pc2 := 71) rfl (tgt := 108) (by decide) (fun h68 => ?_) (fun h68 => ?_)
          · refine Y_iinc 60 rfl (pc2 := 111) rfl rfl (nI_inc _ 1) (ls2 := [some (.ref _), some (.ref _), some (.int _), some (.int _), some (.int _), some (.int _), some (.int _), some (.int _), _]) rfl ?_
            refine Y_goto 61 rfl (pc2 := 9) (by decide) ?_
            first
              | exact (by
                  have hi := ih (k + 1) (by omega) (by omega) m1 hE
                  rw [bst_no (by rintro ⟨p1, p2, p3⟩; first | exact h48 p1 | exact h58 p2 | exact h68 p3), hb] at hi
                  exact hi _ _ _ _)
              | exact (by
                  have hi := ih (k + 1) (by omega) (by omega) m2 hE2
                  rw [bst_lt u3 hb (by show lps _ _ _ _ < lv; omega)] at hi
                  exact hi _ _ _ _)
              | exact (by
                  have hi := ih (k + 1) (by omega) (by omega) m2 hE2
                  rw [bst_ge u3 hb (by show ¬ lps _ _ _ _ < lv; omega)] at hi
                  exact hi _ _ _ _)
          · refine Y_aload_n 38 rfl (pc2 := 72) rfl rfl ?_
            refine Y_aload_n 39 rfl (pc2 := 73) rfl rfl ?_
            refine Y_iload 40 rfl (pc2 := 75) rfl rfl ?_
            refine Y_iload 41 rfl (pc2 := 77) rfl rfl ?_
            refine Y_iload 42 rfl (pc2 := 79) rfl rfl ?_
            refine Y_cV 43 rfl (pc2 := 82) rfl ok_li_leapsWith lk_li_73 vi_li_leapsWith ly_li rfl (by decide) rfl (as := [.ref _, .int _, .int _, .int _]) (rest := []) rfl rfl (T_li_leapsWith h w (a := k / 36) (b := k / 6 % 6) (d := k % 6) hc hl (by omega) (by omega) (by omega) h48 h58 h68 (LR_18 (hL _ (by omega) h48) hE) (LR_18 (hL _ (by omega) h58) hE) (LR_18 (hL _ (by omega) h68) hE)) ?_
            rintro _ m2 ⟨rfl, hm2⟩
            change Y _ _ _ _ _ [.int _] _ _
            have hE2 : eq18 m m2 := fun q hq => (hm2 q hq).trans (hE q hq)
            have u3 : us3 S l k := ⟨h48, h58, h68⟩
            have hvk := vk_le w hc hl (by omega) u3
            refine Y_istore 44 rfl (pc2 := 84) rfl (Nat.le_of_ble_eq_true rfl) (ls2 := [some (.ref _), some (.ref _), some (.int _), some (.int _), some (.int _), some (.int _), some (.int _), some (.int _), some (.int _)]) rfl ?_
            have hvk2 : lps S c l (th3 (k / 36) (k / 6 % 6) (k % 6)) ≤ 4608 := hvk
            refine Y_iload 45 rfl (pc2 := 86) rfl rfl ?_
            refine Y_iload_n 46 rfl (pc2 := 87) rfl rfl ?_
            refine Y_icmp_gen 47 rfl (pc2 := 90) rfl (tgt := 108) (by decide) (by omega) (by omega) (fun h87 => ?_) (fun h87 => ?_)
            · refine Y_iinc 60 rfl (pc2 := 111) rfl rfl (nI_inc _ 1) (ls2 := [some (.ref _), some (.ref _), some (.int _), some (.int _), some (.int _), some (.int _), some (.int _), some (.int _), some (.int _)]) rfl ?_
              refine Y_goto 61 rfl (pc2 := 9) (by decide) ?_
              first
                | exact (by
                    have hi := ih (k + 1) (by omega) (by omega) m1 hE
                    rw [bst_no (by rintro ⟨p1, p2, p3⟩; first | exact h48 p1 | exact h58 p2 | exact h68 p3), hb] at hi
                    exact hi _ _ _ _)
                | exact (by
                    have hi := ih (k + 1) (by omega) (by omega) m2 hE2
                    rw [bst_lt u3 hb (by show lps _ _ _ _ < lv; omega)] at hi
                    exact hi _ _ _ _)
                | exact (by
                    have hi := ih (k + 1) (by omega) (by omega) m2 hE2
                    rw [bst_ge u3 hb (by show ¬ lps _ _ _ _ < lv; omega)] at hi
                    exact hi _ _ _ _)
            · refine Y_iload 48 rfl (pc2 := 92) rfl rfl ?_
              refine Y_istore_n 49 rfl (pc2 := 93) rfl (Nat.le_of_ble_eq_true rfl) (ls2 := [some (.ref _), some (.ref _), some (.int _), some (.int _), some (.int _), some (.int _), some (.int _), some (.int _), some (.int _)]) rfl ?_
              refine Y_bipush 50 rfl (pc2 := 95) rfl (v := nI 100) (by decide) ?_
              refine Y_iload 51 rfl (pc2 := 97) rfl rfl ?_
              refine Y_imul 52 rfl (pc2 := 98) rfl ?_
              refine Y_top (nI_mul _ _) ?_
              refine Y_bipush 53 rfl (pc2 := 100) rfl (v := nI 10) (by decide) ?_
              refine Y_iload 54 rfl (pc2 := 102) rfl rfl ?_
              refine Y_imul 55 rfl (pc2 := 103) rfl ?_
              refine Y_top (nI_mul _ _) ?_
              refine Y_iadd 56 rfl (pc2 := 104) rfl ?_
              refine Y_top (nI_add _ _) ?_
              refine Y_iload 57 rfl (pc2 := 106) rfl rfl ?_
              refine Y_iadd 58 rfl (pc2 := 107) rfl ?_
              refine Y_top (nI_add _ _) ?_
              refine Y_istore_n 59 rfl (pc2 := 108) rfl (Nat.le_of_ble_eq_true rfl) (ls2 := [some (.ref _), some (.ref _), some (.int _), some (.int _), some (.int _), some (.int _), some (.int _), some (.int _), some (.int _)]) rfl ?_
              refine Y_iinc 60 rfl (pc2 := 111) rfl rfl (nI_inc _ 1) (ls2 := [some (.ref _), some (.ref _), some (.int _), some (.int _), some (.int _), some (.int _), some (.int _), some (.int _), some (.int _)]) rfl ?_
              refine Y_goto 61 rfl (pc2 := 9) (by decide) ?_
              first
                | exact (by
                    have hi := ih (k + 1) (by omega) (by omega) m1 hE
                    rw [bst_no (by rintro ⟨p1, p2, p3⟩; first | exact h48 p1 | exact h58 p2 | exact h68 p3), hb] at hi
                    exact hi _ _ _ _)
                | exact (by
                    have hi := ih (k + 1) (by omega) (by omega) m2 hE2
                    rw [bst_lt u3 hb (by show lps _ _ _ _ < lv; omega)] at hi
                    exact hi _ _ _ _)
                | exact (by
                    have hi := ih (k + 1) (by omega) (by omega) m2 hE2
                    rw [bst_ge u3 hb (by show ¬ lps _ _ _ _ < lv; omega)] at hi
                    exact hi _ _ _ _)

set_option maxHeartbeats 400000 in
theorem T_li_leastLeaping {G : Nat × (Nat → Int32)} {m : Mm} {S : Mm} (h : RC m S) (w : WF S) {c l : Nat} (hc : c < 4) (hl : l < 4) (hU : ∀ f, f < 6 → m 19 f = bI (okF S l f)) (hL : ∀ f, f < 6 → okF S l f → LR m S l f) : Y G M_li_leastLeaping (0, 0) 0 (en_ M_li_leastLeaping [.ref (14), .ref (21 + 5 * c)]) [] (LAY, m) (qm_ LAY (p18 (bB (bst S c l 216)) m)) := by
  change Y _ _ _ _ [some (.ref _), some (.ref _), none, none, none, none, none, none, none] _ _ _
  refine Y_ldc 0 rfl (pc2 := 2) rfl kc_li_69 ?_
  refine Y_istore_n 1 rfl (pc2 := 3) rfl (Nat.le_of_ble_eq_true rfl) (ls2 := [some (.ref _), some (.ref _), some (.int _), none, none, none, none, none, none]) rfl ?_
  refine Y_ldc 2 rfl (pc2 := 5) rfl kc_li_72 ?_
  refine Y_istore_n 3 rfl (pc2 := 6) rfl (Nat.le_of_ble_eq_true rfl) (ls2 := [some (.ref _), some (.ref _), some (.int _), some (.int _), none, none, none, none, none]) rfl ?_
  refine Y_iconst 4 rfl (pc2 := 7) rfl (v := nI 0) (by decide) ?_
  refine Y_istore 5 rfl (pc2 := 9) rfl (Nat.le_of_ble_eq_true rfl) (ls2 := [some (.ref _), some (.ref _), some (.int _), some (.int _), some (.int _), none, none, none, none]) rfl ?_
  exact L_least h w hc hl hU hL 0 (Nat.zero_le _) m (fun _ _ => rfl) _ _ _ _
