/-! the class: reading a tune -/
abbrev Qt : Type := Nat × (Nat → Int32) × (Nat → Int32)
abbrev As : Type := Qt × Option Nat × Bool × Bool
def qpush (q : Qt) (a g : Int32) : Qt := (q.1 + 1, (fun i => if i = q.1 then a else q.2.1 i), (fun i => if i = q.1 then g else q.2.2 i))
def qset (q : Qt) (k : Int32) : Qt := (q.1, q.2.1, fun i => if i + 1 = q.1 then k else q.2.2 i)
def rp (q : Qt) (st w : Nat) : Nat → Qt
  | 0 => q
  | k + 1 => qpush (rp q st w k) ((rp q st w k).2.1 (st + k % w)) ((rp q st w k).2.2 (st + k % w))
set_option maxHeartbeats 400000 in
theorem rp_n {q : Qt} {st w : Nat} : ∀ k, (rp q st w k).1 = q.1 + k
  | 0 => rfl
  | k + 1 => by
    show (rp q st w k).1 + 1 = _
    rw [rp_n k]; omega
def gkn (v : Nat) : Int32 := if v = 103 then nI 0 else if v = 71 then nI 1 else if v = 72 then nI 2 else if v = 76 then nI 3 else -1
def stp (v : Nat) (s : As) : Option As :=
  if s.2.2.1 = true then (if 50 ≤ v ∧ v ≤ 57 then some (rp s.1 (s.2.1.getD 0) (s.1.1 - s.2.1.getD 0) ((v - 49) * (s.1.1 - s.2.1.getD 0)), none, false, s.2.2.2) else none)
  else if v = 91 then (if s.2.1 = none then some (s.1, some s.1.1, false, false) else none)
  else if v = 93 then (if s.2.1 = none ∨ s.2.1 = some s.1.1 then none else some (s.1, s.2.1, true, false))
  else if v = 46 then some (qpush s.1 (-1) (-1), s.2.1, false, true)
  else if 49 ≤ v ∧ v ≤ 55 then some (qpush s.1 (nI (v - 49)) (-1), s.2.1, false, true)
  else if s.2.2.2 = true ∧ ¬ gkn v = -1 then some (qset s.1 (gkn v), s.2.1, false, false) else none
def opI (o : Option Nat) : Int32 := match o with
  | none => NONE_
  | some k => nI k
def bo (b : Bool) : Int32 := if b = true then nI 1 else nI 0
def RQ (m : Mm) (q : Qt) : Prop := m 3 2 = nI q.1 ∧ ∀ i, i < 32 → i < q.1 → m 4 i = oC (q.2.1 i) ∧ m 5 i = oC (q.2.2 i)
def RR (m : Mm) (q : Qt) (op : Option Nat) (aT aG : Bool) : Prop := RQ m q ∧ m 3 3 = opI op ∧ m 3 4 = bo aT ∧ m 3 5 = bo aG
def fR (m m' : Mm) : Prop := ∀ a, ¬ (a = 3 ∨ a = 4 ∨ a = 5) → m' a = m a
def fR2 (m m' : Mm) : Prop := fR m m' ∧ ∀ k, ¬ k = 2 → m' 3 k = m 3 k
set_option maxHeartbeats 400000 in
theorem fR2_t {m1 m2 m3 : Mm} (h1 : fR2 m1 m2) (h2 : fR2 m2 m3) : fR2 m1 m3 := ⟨fun a ha => (h2.1 a ha).trans (h1.1 a ha), fun k hk => (h2.2 k hk).trans (h1.2 k hk)⟩
def pA_ (m : Mm) (q : Qt) : Option Value → Mm → Prop := fun v m' => v = none ∧ RQ m' q ∧ fR2 m m'
set_option maxHeartbeats 400000 in
theorem RQ_push1 {m : Mm} {q : Qt} {a g x y : Int32} (h : RQ m q) (hn : q.1 < 32) (hx : x = oC a) (hy : y = oC g) : RQ (uw_ (uw_ (uw_ m 4 q.1 x) 5 q.1 y) 3 2 (nI (q.1 + 1))) (qpush q a g) := by
  refine ⟨uw_same, fun i hi hq => ?_⟩
  have hq2 : i < q.1 + 1 := hq
  by_cases e : i = q.1
  · subst e
    refine ⟨?_, ?_⟩
    · rw [uw_ne (by omega), uw_ne (by omega), uw_same, hx]
      show _ = oC (if q.1 = q.1 then a else _)
      rw [if_pos rfl]
    · rw [uw_ne (by omega), uw_same, hy]
      show _ = oC (if q.1 = q.1 then g else _)
      rw [if_pos rfl]
  · obtain ⟨p1, p2⟩ := h.2 i hi (by omega)
    refine ⟨?_, ?_⟩
    · rw [uw_ne (by omega), uw_ne (by omega), uw_ne (by omega), p1]
      show _ = oC (if i = q.1 then a else _)
      rw [if_neg e]
    · rw [uw_ne (by omega), uw_ne (by omega), uw_ne (by omega), p2]
      show _ = oC (if i = q.1 then g else _)
      rw [if_neg e]
set_option maxHeartbeats 400000 in
theorem RQ_push2 {m : Mm} {q : Qt} {a g : Int32} (h : RQ m q) (hn : ¬ q.1 < 32) : RQ (uw_ m 3 2 (nI (q.1 + 1))) (qpush q a g) := by
  refine ⟨uw_same, fun i hi hq => ?_⟩
  obtain ⟨p1, p2⟩ := h.2 i hi (by omega)
  refine ⟨?_, ?_⟩
  · rw [uw_ne (by omega), p1]
    show _ = oC (if i = q.1 then a else _)
    rw [if_neg (by omega)]
  · rw [uw_ne (by omega), p2]
    show _ = oC (if i = q.1 then g else _)
    rw [if_neg (by omega)]
set_option maxHeartbeats 400000 in
theorem fR2_1 {m : Mm} {a b j k : Nat} {u v w : Int32} (ha : a = 4 ∨ a = 5) (hb : b = 4 ∨ b = 5) : fR2 m (uw_ (uw_ (uw_ m a j u) b k v) 3 2 w) :=
  ⟨fun c hc => funext fun i => by rw [uw_ne (by omega), uw_ne (by omega), uw_ne (by omega)], fun i hi => by rw [uw_ne (by omega), uw_ne (by omega), uw_ne (by omega)]⟩
set_option maxHeartbeats 400000 in
theorem fR2_2 {m : Mm} {w : Int32} : fR2 m (uw_ m 3 2 w) := ⟨fun c hc => funext fun i => by rw [uw_ne (by omega)], fun i hi => by rw [uw_ne (by omega)]⟩

set_option maxHeartbeats 400000 in
theorem T_re_addBeat {G : Nat × (Nat → Int32)} {m : Mm} {q : Qt} {a g x y : Int32} (h : RQ m q) (hb : q.1 < 1000000) (hx : q.1 < 32 → x = oC a ∧ y = oC g) : Y G M_re_addBeat (0, 0) 0 (en_ M_re_addBeat [.ref (3), .int (x), .int (y)]) [] (LAY, m) (qm_ LAY (pA_ m (qpush q a g))) := by
  change Y _ _ _ _ [some (.ref _), some (.int _), some (.int _)] _ _ _
  refine Y_aload_n 0 rfl (pc2 := 1) rfl rfl ?_
  refine Y_getI 1 rfl (pc2 := 4) rfl fl_re_18 ly_re (by decide) rfl ?_
  refine Y_top (h.1) ?_
  refine Y_bipush 2 rfl (pc2 := 6) rfl (v := nI 32) (by decide) ?_
  refine Y_icmp_gen 3 rfl (pc2 := 9) rfl (tgt := 29) (by decide) (by omega) (by omega) (fun h6 => ?_) (fun h6 => ?_)
  · refine Y_aload_n 16 rfl (pc2 := 30) rfl rfl ?_
    refine Y_dup 17 rfl (pc2 := 31) rfl rfl ?_
    refine Y_getI 18 rfl (pc2 := 34) rfl fl_re_18 ly_re (by decide) rfl ?_
    refine Y_top (by first | exact h.1 | exact (uw_ne (by omega)).trans ((uw_ne (by omega)).trans h.1)) ?_
    refine Y_iconst 19 rfl (pc2 := 35) rfl (v := nI 1) (by decide) ?_
    refine Y_iadd 20 rfl (pc2 := 36) rfl ?_
    refine Y_top (nI_add _ _) ?_
    refine Y_putI 21 rfl (pc2 := 39) rfl fl_re_18 ly_re (by decide) ⟨rfl, rfl⟩ ⟨_, _, _, rfl, rfl⟩ rfl ?_
    refine Y_vret 22 rfl rfl ⟨rfl, ?_⟩
    dsimp only
    first | exact ⟨rfl, RQ_push1 h (by omega) (hx (by omega)).1 (hx (by omega)).2, fR2_1 (by omega) (by omega)⟩ | exact ⟨rfl, RQ_push2 h (by omega), fR2_2⟩
  · refine Y_aload_n 4 rfl (pc2 := 10) rfl rfl ?_
    refine Y_getR 5 rfl (pc2 := 13) rfl fl_re_9 ly_re (by decide) rfl rfl (by omega) ?_
    refine Y_aload_n 6 rfl (pc2 := 14) rfl rfl ?_
    refine Y_getI 7 rfl (pc2 := 17) rfl fl_re_18 ly_re (by decide) rfl ?_
    refine Y_top (h.1) ?_
    refine Y_iload_n 8 rfl (pc2 := 18) rfl rfl ?_
    refine Y_iast 9 rfl (pc2 := 19) rfl ly_reN rfl (by omega) (by decide) rfl ?_
    refine Y_aload_n 10 rfl (pc2 := 20) rfl rfl ?_
    refine Y_getR 11 rfl (pc2 := 23) rfl fl_re_15 ly_re (by decide) rfl rfl (by omega) ?_
    refine Y_aload_n 12 rfl (pc2 := 24) rfl rfl ?_
    refine Y_getI 13 rfl (pc2 := 27) rfl fl_re_18 ly_re (by decide) rfl ?_
    refine Y_top ((uw_ne (by omega)).trans h.1) ?_
    refine Y_iload_n 14 rfl (pc2 := 28) rfl rfl ?_
    refine Y_iast 15 rfl (pc2 := 29) rfl ly_reG rfl (by omega) (by decide) rfl ?_
    refine Y_aload_n 16 rfl (pc2 := 30) rfl rfl ?_
    refine Y_dup 17 rfl (pc2 := 31) rfl rfl ?_
    refine Y_getI 18 rfl (pc2 := 34) rfl fl_re_18 ly_re (by decide) rfl ?_
    refine Y_top (by first | exact h.1 | exact (uw_ne (by omega)).trans ((uw_ne (by omega)).trans h.1)) ?_
    refine Y_iconst 19 rfl (pc2 := 35) rfl (v := nI 1) (by decide) ?_
    refine Y_iadd 20 rfl (pc2 := 36) rfl ?_
    refine Y_top (nI_add _ _) ?_
    refine Y_putI 21 rfl (pc2 := 39) rfl fl_re_18 ly_re (by decide) ⟨rfl, rfl⟩ ⟨_, _, _, rfl, rfl⟩ rfl ?_
    refine Y_vret 22 rfl rfl ⟨rfl, ?_⟩
    dsimp only
    first | exact ⟨rfl, RQ_push1 h (by omega) (hx (by omega)).1 (hx (by omega)).2, fR2_1 (by omega) (by omega)⟩ | exact ⟨rfl, RQ_push2 h (by omega), fR2_2⟩

set_option maxHeartbeats 400000 in
theorem nI_i32 {b : Nat} (hb : b < 2 ^ 31) (h : iR (nI b) 32) : b < 32 := by
  obtain ⟨k, hk, e⟩ := h
  have := (nI_eq hb (by omega)).mp e; omega

set_option maxHeartbeats 400000 in
theorem L_repIn {G : Nat × (Nat → Int32)} {m : Mm} {q : Qt} {s j t : Nat} (hs : s < q.1) (hw : q.1 - s ≤ 64) (hq : q.1 < 50000) (hj : j + 1 < t) (ht : t ≤ 9) (HO : ∀ m1, RQ m1 (rp q s (q.1 - s) ((j + 1) * (q.1 - s))) → fR2 m m1 → ∀ (u v : Option Value), Y G M_re_repeatFrom (0, 0) 8 [some (.ref 3), some (.int (nI s)), some (.int (nI t)), some (.int (nI q.1)), some (.int (nI (j + 1 + 1))), u, v] [] (LAY, m1) (qm_ LAY (pA_ m (rp q s (q.1 - s) ((t - 1) * (q.1 - s)))))) : ∀ b, b ≤ q.1 → s ≤ b → ∀ m1, RQ m1 (rp q s (q.1 - s) (j * (q.1 - s) + (b - s))) → fR2 m m1 → ∀ (u : Option Value), Y G M_re_repeatFrom (0, 0) 17 [some (.ref 3), some (.int (nI s)), some (.int (nI t)), some (.int (nI q.1)), some (.int (nI (j + 1))), some (.int (nI b)), u] [] (LAY, m1) (qm_ LAY (pA_ m (rp q s (q.1 - s) ((t - 1) * (q.1 - s))))) := by
  refine ind_ (fun b hb ih hsb m1 hQ hF u => ?_)
  refine Y_iload 10 rfl (pc2 := 19) rfl rfl ?_
  refine Y_iload_n 11 rfl (pc2 := 20) rfl rfl ?_
  refine Y_icmp_gen 12 rfl (pc2 := 23) rfl (tgt := 76) (by decide) (by omega) (by omega) (fun h20 => ?_) (fun h20 => ?_)
  · refine Y_iinc 37 rfl (pc2 := 79) rfl rfl (nI_inc _ 1) (ls2 := [some (.ref _), some (.int _), some (.int _), some (.int _), some (.int _), some (.int _), _]) rfl ?_
    refine Y_goto 38 rfl (pc2 := 8) (by decide) ?_
    refine HO m1 ?_ hF _ _
    have e : (j + 1) * (q.1 - s) = (j * (q.1 - s) + (b - s)) := by rw [Nat.succ_mul, show b = q.1 by omega]
    rw [e]
    exact hQ
  · refine Y_iload 13 rfl (pc2 := 25) rfl rfl ?_
    refine Y_bipush 14 rfl (pc2 := 27) rfl (v := nI 32) (by decide) ?_
    refine Y_cS 15 rfl (pc2 := 30) rfl ok_gh_isBelow lk_re_73 vs_gh_isBelow (as := [.int _, .int _]) (rest := []) rfl rfl (T_gh_isBelow (by omega)) ?_
    rintro _ _ ⟨rfl, rfl⟩
    change Y _ _ _ _ _ [.int _] _ _
    refine Y_istore 16 rfl (pc2 := 32) rfl (Nat.le_of_ble_eq_true rfl) (ls2 := [some (.ref _), some (.int _), some (.int _), some (.int _), some (.int _), some (.int _), some (.int _)]) rfl ?_
    refine Y_aload_n 17 rfl (pc2 := 33) rfl rfl ?_
    refine Y_iload 18 rfl (pc2 := 35) rfl rfl ?_
    refine Y_if_eqb 19 rfl (pc2 := 38) rfl (tgt := 48) (by decide) (fun h35 => ?_) (fun h35 => ?_)
    · refine Y_ldc 25 rfl (pc2 := 50) rfl kc_re_22 ?_
      refine Y_iload 26 rfl (pc2 := 52) rfl rfl ?_
      refine Y_if_eqb 27 rfl (pc2 := 55) rfl (tgt := 65) (by decide) (fun h52 => ?_) (fun h52 => ?_)
      · refine Y_ldc 33 rfl (pc2 := 67) rfl kc_re_22 ?_
        refine Y_cV 34 rfl (pc2 := 70) rfl ok_re_addBeat lk_re_66 vi_re_addBeat ly_re rfl (by decide) rfl (as := [.int _, .int _]) (rest := []) rfl rfl (T_re_addBeat (a := (rp q s (q.1 - s) (j * (q.1 - s) + (b - s))).2.1 b) (g := (rp q s (q.1 - s) (j * (q.1 - s) + (b - s))).2.2 b) hQ (by rw [rp_n]; have : j * (q.1 - s) ≤ 8 * 600 := Nat.mul_le_mul (by omega) (by omega); omega) (fun hlt => by rw [rp_n] at hlt; first | exact ⟨rfl, rfl⟩ | exact absurd (show iR (nI b) 32 from ⟨b, by omega, rfl⟩) (by assumption))) ?_
        rintro _ m2 ⟨rfl, hQ2, hF2⟩
        change Y _ _ _ _ _ [] _ _
        refine Y_iinc 35 rfl (pc2 := 73) rfl rfl (nI_inc _ 1) (ls2 := [some (.ref _), some (.int _), some (.int _), some (.int _), some (.int _), some (.int _), some (.int _)]) rfl ?_
        refine Y_goto 36 rfl (pc2 := 17) (by decide) ?_
        refine ih (b + 1) (by omega) (by omega) (by omega) m2 ?_ (fR2_t hF hF2) _
        have e : j * (q.1 - s) + (b + 1 - s) = (j * (q.1 - s) + (b - s)) + 1 := by omega
        rw [e]
        have e2 : s + (j * (q.1 - s) + (b - s)) % (q.1 - s) = b := by rw [Nat.mul_comm, Nat.mul_add_mod, Nat.mod_eq_of_lt (by omega)]; omega
        show RQ m2 (qpush (rp q s (q.1 - s) (j * (q.1 - s) + (b - s))) ((rp q s (q.1 - s) (j * (q.1 - s) + (b - s))).2.1 (s + (j * (q.1 - s) + (b - s)) % (q.1 - s))) ((rp q s (q.1 - s) (j * (q.1 - s) + (b - s))).2.2 (s + (j * (q.1 - s) + (b - s)) % (q.1 - s))))
        rw [e2]
        exact hQ2
      · have hb33 := nI_i32 (by omega) h52
        refine Y_aload_n 28 rfl (pc2 := 56) rfl rfl ?_
        refine Y_getR 29 rfl (pc2 := 59) rfl fl_re_15 ly_re (by decide) rfl rfl (by omega) ?_
        refine Y_iload 30 rfl (pc2 := 61) rfl rfl ?_
        refine Y_iald 31 rfl (pc2 := 62) rfl ly_reG rfl (by omega) (by decide) ?_
        refine Y_top ((hQ.2 b (nI_i32 (by omega) h52) (by rw [rp_n]; omega)).2) ?_
        refine Y_goto 32 rfl (pc2 := 67) (by decide) ?_
        refine Y_cV 34 rfl (pc2 := 70) rfl ok_re_addBeat lk_re_66 vi_re_addBeat ly_re rfl (by decide) rfl (as := [.int _, .int _]) (rest := []) rfl rfl (T_re_addBeat (a := (rp q s (q.1 - s) (j * (q.1 - s) + (b - s))).2.1 b) (g := (rp q s (q.1 - s) (j * (q.1 - s) + (b - s))).2.2 b) hQ (by rw [rp_n]; have : j * (q.1 - s) ≤ 8 * 600 := Nat.mul_le_mul (by omega) (by omega); omega) (fun hlt => by rw [rp_n] at hlt; first | exact ⟨rfl, rfl⟩ | exact absurd (show iR (nI b) 32 from ⟨b, by omega, rfl⟩) (by assumption))) ?_
        rintro _ m2 ⟨rfl, hQ2, hF2⟩
        change Y _ _ _ _ _ [] _ _
        refine Y_iinc 35 rfl (pc2 := 73) rfl rfl (nI_inc _ 1) (ls2 := [some (.ref _), some (.int _), some (.int _), some (.int _), some (.int _), some (.int _), some (.int _)]) rfl ?_
        refine Y_goto 36 rfl (pc2 := 17) (by decide) ?_
        refine ih (b + 1) (by omega) (by omega) (by omega) m2 ?_ (fR2_t hF hF2) _
        have e : j * (q.1 - s) + (b + 1 - s) = (j * (q.1 - s) + (b - s)) + 1 := by omega
        rw [e]
        have e2 : s + (j * (q.1 - s) + (b - s)) % (q.1 - s) = b := by rw [Nat.mul_comm, Nat.mul_add_mod, Nat.mod_eq_of_lt (by omega)]; omega
        show RQ m2 (qpush (rp q s (q.1 - s) (j * (q.1 - s) + (b - s))) ((rp q s (q.1 - s) (j * (q.1 - s) + (b - s))).2.1 (s + (j * (q.1 - s) + (b - s)) % (q.1 - s))) ((rp q s (q.1 - s) (j * (q.1 - s) + (b - s))).2.2 (s + (j * (q.1 - s) + (b - s)) % (q.1 - s))))
        rw [e2]
        exact hQ2
    · have hb32 := nI_i32 (by omega) h35
      refine Y_aload_n 20 rfl (pc2 := 39) rfl rfl ?_
      refine Y_getR 21 rfl (pc2 := 42) rfl fl_re_9 ly_re (by decide) rfl rfl (by omega) ?_
      refine Y_iload 22 rfl (pc2 := 44) rfl rfl ?_
      refine Y_iald 23 rfl (pc2 := 45) rfl ly_reN rfl (by omega) (by decide) ?_
      refine Y_top ((hQ.2 b (nI_i32 (by omega) h35) (by rw [rp_n]; omega)).1) ?_
      refine Y_goto 24 rfl (pc2 := 50) (by decide) ?_
      refine Y_iload 26 rfl (pc2 := 52) rfl rfl ?_
      refine Y_if_eqb 27 rfl (pc2 := 55) rfl (tgt := 65) (by decide) (fun h52 => ?_) (fun h52 => ?_)
      · refine Y_ldc 33 rfl (pc2 := 67) rfl kc_re_22 ?_
        refine Y_cV 34 rfl (pc2 := 70) rfl ok_re_addBeat lk_re_66 vi_re_addBeat ly_re rfl (by decide) rfl (as := [.int _, .int _]) (rest := []) rfl rfl (T_re_addBeat (a := (rp q s (q.1 - s) (j * (q.1 - s) + (b - s))).2.1 b) (g := (rp q s (q.1 - s) (j * (q.1 - s) + (b - s))).2.2 b) hQ (by rw [rp_n]; have : j * (q.1 - s) ≤ 8 * 600 := Nat.mul_le_mul (by omega) (by omega); omega) (fun hlt => by rw [rp_n] at hlt; first | exact ⟨rfl, rfl⟩ | exact absurd (show iR (nI b) 32 from ⟨b, by omega, rfl⟩) (by assumption))) ?_
        rintro _ m2 ⟨rfl, hQ2, hF2⟩
        change Y _ _ _ _ _ [] _ _
        refine Y_iinc 35 rfl (pc2 := 73) rfl rfl (nI_inc _ 1) (ls2 := [some (.ref _), some (.int _), some (.int _), some (.int _), some (.int _), some (.int _), some (.int _)]) rfl ?_
        refine Y_goto 36 rfl (pc2 := 17) (by decide) ?_
        refine ih (b + 1) (by omega) (by omega) (by omega) m2 ?_ (fR2_t hF hF2) _
        have e : j * (q.1 - s) + (b + 1 - s) = (j * (q.1 - s) + (b - s)) + 1 := by omega
        rw [e]
        have e2 : s + (j * (q.1 - s) + (b - s)) % (q.1 - s) = b := by rw [Nat.mul_comm, Nat.mul_add_mod, Nat.mod_eq_of_lt (by omega)]; omega
        show RQ m2 (qpush (rp q s (q.1 - s) (j * (q.1 - s) + (b - s))) ((rp q s (q.1 - s) (j * (q.1 - s) + (b - s))).2.1 (s + (j * (q.1 - s) + (b - s)) % (q.1 - s))) ((rp q s (q.1 - s) (j * (q.1 - s) + (b - s))).2.2 (s + (j * (q.1 - s) + (b - s)) % (q.1 - s))))
        rw [e2]
        exact hQ2
      · have hb33 := nI_i32 (by omega) h52
        refine Y_aload_n 28 rfl (pc2 := 56) rfl rfl ?_
        refine Y_getR 29 rfl (pc2 := 59) rfl fl_re_15 ly_re (by decide) rfl rfl (by omega) ?_
        refine Y_iload 30 rfl (pc2 := 61) rfl rfl ?_
        refine Y_iald 31 rfl (pc2 := 62) rfl ly_reG rfl (by omega) (by decide) ?_
        refine Y_top ((hQ.2 b (nI_i32 (by omega) h52) (by rw [rp_n]; omega)).2) ?_
        refine Y_goto 32 rfl (pc2 := 67) (by decide) ?_
        refine Y_cV 34 rfl (pc2 := 70) rfl ok_re_addBeat lk_re_66 vi_re_addBeat ly_re rfl (by decide) rfl (as := [.int _, .int _]) (rest := []) rfl rfl (T_re_addBeat (a := (rp q s (q.1 - s) (j * (q.1 - s) + (b - s))).2.1 b) (g := (rp q s (q.1 - s) (j * (q.1 - s) + (b - s))).2.2 b) hQ (by rw [rp_n]; have : j * (q.1 - s) ≤ 8 * 600 := Nat.mul_le_mul (by omega) (by omega); omega) (fun hlt => by rw [rp_n] at hlt; first | exact ⟨rfl, rfl⟩ | exact absurd (show iR (nI b) 32 from ⟨b, by omega, rfl⟩) (by assumption))) ?_
        rintro _ m2 ⟨rfl, hQ2, hF2⟩
        change Y _ _ _ _ _ [] _ _
        refine Y_iinc 35 rfl (pc2 := 73) rfl rfl (nI_inc _ 1) (ls2 := [some (.ref _), some (.int _), some (.int _), some (.int _), some (.int _), some (.int _), some (.int _)]) rfl ?_
        refine Y_goto 36 rfl (pc2 := 17) (by decide) ?_
        refine ih (b + 1) (by omega) (by omega) (by omega) m2 ?_ (fR2_t hF hF2) _
        have e : j * (q.1 - s) + (b + 1 - s) = (j * (q.1 - s) + (b - s)) + 1 := by omega
        rw [e]
        have e2 : s + (j * (q.1 - s) + (b - s)) % (q.1 - s) = b := by rw [Nat.mul_comm, Nat.mul_add_mod, Nat.mod_eq_of_lt (by omega)]; omega
        show RQ m2 (qpush (rp q s (q.1 - s) (j * (q.1 - s) + (b - s))) ((rp q s (q.1 - s) (j * (q.1 - s) + (b - s))).2.1 (s + (j * (q.1 - s) + (b - s)) % (q.1 - s))) ((rp q s (q.1 - s) (j * (q.1 - s) + (b - s))).2.2 (s + (j * (q.1 - s) + (b - s)) % (q.1 - s))))
        rw [e2]
        exact hQ2

set_option maxHeartbeats 400000 in
theorem L_repOut {G : Nat × (Nat → Int32)} {m : Mm} {q : Qt} {s t : Nat} (hs : s < q.1) (hw : q.1 - s ≤ 64) (hq : q.1 < 50000) (ht1 : 1 ≤ t) (ht : t ≤ 9) : ∀ j, j ≤ t - 1 → ∀ m1, RQ m1 (rp q s (q.1 - s) (j * (q.1 - s))) → fR2 m m1 → ∀ (u v : Option Value), Y G M_re_repeatFrom (0, 0) 8 [some (.ref 3), some (.int (nI s)), some (.int (nI t)), some (.int (nI q.1)), some (.int (nI (j + 1))), u, v] [] (LAY, m1) (qm_ LAY (pA_ m (rp q s (q.1 - s) ((t - 1) * (q.1 - s))))) := by
  refine ind_ (fun j hj ih m1 hQ hF u v => ?_)
  refine Y_iload 5 rfl (pc2 := 10) rfl rfl ?_
  refine Y_iload_n 6 rfl (pc2 := 11) rfl rfl ?_
  refine Y_icmp_gen 7 rfl (pc2 := 14) rfl (tgt := 82) (by decide) (by omega) (by omega) (fun h11 => ?_) (fun h11 => ?_)
  · refine Y_vret 39 rfl rfl ⟨rfl, ?_⟩
    dsimp only
    exact ⟨rfl, by rw [show t - 1 = j by omega]; exact hQ, hF⟩
  · refine Y_iload_n 8 rfl (pc2 := 15) rfl rfl ?_
    refine Y_istore 9 rfl (pc2 := 17) rfl (Nat.le_of_ble_eq_true rfl) (ls2 := [some (.ref _), some (.int _), some (.int _), some (.int _), some (.int _), some (.int _), _]) rfl ?_
    exact L_repIn hs hw hq (by omega) ht (fun m2 h2 f2 u2 v2 => ih (j + 1) (by omega) (by omega) m2 h2 f2 u2 v2) s (by omega) (Nat.le_refl s) m1 (by rw [Nat.sub_self, Nat.add_zero]; exact hQ) hF _

set_option maxHeartbeats 400000 in
theorem T_re_repeatFrom {G : Nat × (Nat → Int32)} {m : Mm} {q : Qt} {s t : Nat} (h : RQ m q) (hs : s < q.1) (hw : q.1 - s ≤ 64) (hq : q.1 < 50000) (ht1 : 1 ≤ t) (ht : t ≤ 9) : Y G M_re_repeatFrom (0, 0) 0 (en_ M_re_repeatFrom [.ref (3), .int (nI s), .int (nI t)]) [] (LAY, m) (qm_ LAY (pA_ m (rp q s (q.1 - s) ((t - 1) * (q.1 - s))))) := by
  change Y _ _ _ _ [some (.ref _), some (.int _), some (.int _), none, none, none, none] _ _ _
  refine Y_aload_n 0 rfl (pc2 := 1) rfl rfl ?_
  refine Y_getI 1 rfl (pc2 := 4) rfl fl_re_18 ly_re (by decide) rfl ?_
  refine Y_top (h.1) ?_
  refine Y_istore_n 2 rfl (pc2 := 5) rfl (Nat.le_of_ble_eq_true rfl) (ls2 := [some (.ref _), some (.int _), some (.int _), some (.int _), none, none, none]) rfl ?_
  refine Y_iconst 3 rfl (pc2 := 6) rfl (v := nI 1) (by decide) ?_
  refine Y_istore 4 rfl (pc2 := 8) rfl (Nat.le_of_ble_eq_true rfl) (ls2 := [some (.ref _), some (.int _), some (.int _), some (.int _), some (.int _), none, none]) rfl ?_
  exact L_repOut hs hw hq ht1 ht 0 (Nat.zero_le _) m (by rw [Nat.zero_mul]; exact h) ⟨fun _ _ => rfl, fun _ _ => rfl⟩ _ _

def sgv (v : Nat) : Int32 := (nI v).toInt8.toInt32
set_option maxHeartbeats 400000 in
theorem sgv_p : ∀ v, v < 128 → sgv v = nI v := by decide +kernel
set_option maxHeartbeats 400000 in
theorem sgv_n : ∀ v, v < 256 → 128 ≤ v → sgv v < 0 := by decide +kernel
def pT_ (m : Mm) (o : Option As) : Option Value → Mm → Prop := fun v m' => fR m m' ∧ ((o = none ∧ v = some (.int (nI 0))) ∨ (∃ q op aT aG, o = some (q, op, aT, aG) ∧ v = some (.int (nI 1)) ∧ RR m' q op aT aG))
set_option maxHeartbeats 400000 in
theorem fR_id {m : Mm} : fR m m := fun _ _ => rfl
set_option maxHeartbeats 400000 in
theorem fR_u {m m' : Mm} {k : Nat} {v : Int32} (h : fR m m') : fR m (uw_ m' 3 k v) := fun a ha => funext fun i => by rw [uw_ne (by omega)]; exact congrFun (h a ha) i
set_option maxHeartbeats 400000 in
theorem RQ_u {m : Mm} {q : Qt} {k : Nat} {v : Int32} (h : RQ m q) (hk : ¬ k = 2) : RQ (uw_ m 3 k v) q :=
  ⟨(uw_ne (by omega)).trans h.1, fun i h1 h2 => ⟨(uw_ne (by omega)).trans (h.2 i h1 h2).1, (uw_ne (by omega)).trans (h.2 i h1 h2).2⟩⟩
set_option maxHeartbeats 400000 in
theorem RQ_f {m m' : Mm} {q : Qt} (h : RQ m q) (e : m' = m) : RQ m' q := e ▸ h
set_option maxHeartbeats 400000 in
theorem RQ_set1 {m : Mm} {q : Qt} {k x : Int32} (h : RQ m q) (h1 : 1 ≤ q.1) (hn : q.1 ≤ 32) (hx : x = oC k) : RQ (uw_ m 5 (q.1 - 1) x) (qset q k) := by
  refine ⟨(uw_ne (by omega)).trans h.1, fun i hi hq => ?_⟩
  have hq2 : i < q.1 := hq
  obtain ⟨p1, p2⟩ := h.2 i hi hq2
  refine ⟨(uw_ne (by omega)).trans p1, ?_⟩
  show _ = oC (if i + 1 = q.1 then k else _)
  by_cases e : i + 1 = q.1
  · rw [if_pos e, show i = q.1 - 1 by omega, uw_same, hx]
  · rw [if_neg e, uw_ne (by omega)]; exact p2
set_option maxHeartbeats 400000 in
theorem RQ_set2 {m : Mm} {q : Qt} {k : Int32} (h : RQ m q) (hn : ¬ (1 ≤ q.1 ∧ q.1 ≤ 32)) : RQ m (qset q k) := by
  refine ⟨h.1, fun i hi hq => ?_⟩
  have hq2 : i < q.1 := hq
  obtain ⟨p1, p2⟩ := h.2 i hi hq2
  refine ⟨p1, ?_⟩
  show _ = oC (if i + 1 = q.1 then k else _)
  rw [if_neg (by omega)]; exact p2
set_option maxHeartbeats 400000 in
theorem bo_t : bo true = nI 1 := rfl
set_option maxHeartbeats 400000 in
theorem bo_f : bo false = nI 0 := rfl
set_option maxHeartbeats 400000 in
theorem fR_51 {m : Mm} {k : Nat} {v : Int32} : fR m (uw_ m 5 k v) := fun a ha => funext fun i => by rw [uw_ne (by omega)]

set_option maxHeartbeats 400000 in
theorem T_re_takesBeat {G : Nat × (Nat → Int32)} {m : Mm} {q : Qt} {op : Option Nat} {aG : Bool} (h : RR m q (op) false aG) (hb : q.1 < 50000) {a x : Int32} (hx : x = oC a) : Y G M_re_takesBeat (0, 0) 0 (en_ M_re_takesBeat [.ref (3), .int (x)]) [] (LAY, m) (qm_ LAY (pT_ m (some (qpush q a (-1), op, false, true)))) := by
  change Y _ _ _ _ [some (.ref _), some (.int _)] _ _ _
  refine Y_aload_n 0 rfl (pc2 := 1) rfl rfl ?_
  refine Y_iload_n 1 rfl (pc2 := 2) rfl rfl ?_
  refine Y_ldc 2 rfl (pc2 := 4) rfl kc_re_22 ?_
  refine Y_cV 3 rfl (pc2 := 7) rfl ok_re_addBeat lk_re_66 vi_re_addBeat ly_re rfl (by decide) rfl (as := [.int _, .int _]) (rest := []) rfl rfl (T_re_addBeat (g := -1) h.1 (by omega) (fun _ => ⟨hx, rfl⟩)) ?_
  rintro _ m1 ⟨rfl, hQ, hF⟩
  change Y _ _ _ _ _ [] _ _
  refine Y_aload_n 4 rfl (pc2 := 8) rfl rfl ?_
  refine Y_iconst 5 rfl (pc2 := 9) rfl (v := nI 1) (by decide) ?_
  refine Y_putI 6 rfl (pc2 := 12) rfl fl_re_30 ly_re (by decide) ⟨rfl, rfl⟩ ⟨_, _, _, rfl, rfl⟩ rfl ?_
  refine Y_iconst 7 rfl (pc2 := 13) rfl (v := nI 1) (by decide) ?_
  refine Y_iret 8 rfl rfl rfl ⟨rfl, ?_⟩
  dsimp only
  exact ⟨fR_u hF.1, Or.inr ⟨_, _, _, _, rfl, rfl, RQ_u hQ (by decide), (uw_ne (by omega)).trans ((hF.2 3 (by decide)).trans h.2.1), (uw_ne (by omega)).trans ((hF.2 4 (by decide)).trans h.2.2.1), uw_same⟩⟩

set_option maxHeartbeats 400000 in
theorem T_re_takesGong {G : Nat × (Nat → Int32)} {m : Mm} {q : Qt} {op : Option Nat} {aG : Bool} (h : RR m q (op) false aG) (hb : q.1 < 50000) {k x : Int32} (hx : x = oC k) (hk : oR k 4) : Y G M_re_takesGong (0, 0) 0 (en_ M_re_takesGong [.ref (3), .int (x)]) [] (LAY, m) (qm_ LAY (pT_ m (if aG = true ∧ ¬ k = -1 then some (qset q k, op, false, false) else none))) := by
  change Y _ _ _ _ [some (.ref _), some (.int _)] _ _ _
  have hn := (oC_none (by decide) hk).trans (oR_neg (by decide) hk)
  have hg := h.2.2.2
  refine Y_aload_n 0 rfl (pc2 := 1) rfl rfl ?_
  refine Y_getI 1 rfl (pc2 := 4) rfl fl_re_30 ly_re (by decide) rfl ?_
  refine Y_top (h.2.2.2) ?_
  refine Y_if_eq 2 rfl (pc2 := 7) rfl (tgt := 13) (by decide) (fun h4 => ?_) (fun h4 => ?_)
  · refine Y_iconst 6 rfl (pc2 := 14) rfl (v := nI 0) (by decide) ?_
    refine Y_iret 7 rfl rfl rfl ⟨rfl, ?_⟩
    dsimp only
    first
      | exact ⟨fR_id, Or.inl ⟨if_neg (fun e => by have e1 : aG = true := e.1; rw [e1] at h4; exact absurd h4 (by decide)), rfl⟩⟩
      | exact ⟨fR_id, Or.inl ⟨if_neg (fun e => e.2 (hn.mp (by rw [← hx]; first | exact h10 | exact Classical.byContradiction h10))), rfl⟩⟩
  · refine Y_iload_n 3 rfl (pc2 := 8) rfl rfl ?_
    refine Y_ldc 4 rfl (pc2 := 10) rfl kc_re_22 ?_
    refine Y_icmp_ne 5 rfl (pc2 := 13) rfl (tgt := 15) (by decide) (fun h10 => ?_) (fun h10 => ?_)
    · refine Y_aload_n 8 rfl (pc2 := 16) rfl rfl ?_
      refine Y_getI 9 rfl (pc2 := 19) rfl fl_re_18 ly_re (by decide) rfl ?_
      refine Y_top (h.1.1) ?_
      refine Y_iconst 10 rfl (pc2 := 20) rfl (v := nI 1) (by decide) ?_
      refine Y_icmp_ltn 11 rfl (pc2 := 23) rfl (tgt := 44) (by decide) (by omega) (by omega) (fun h20 => ?_) (fun h20 => ?_)
      · refine Y_aload_n 24 rfl (pc2 := 45) rfl rfl ?_
        refine Y_iconst 25 rfl (pc2 := 46) rfl (v := nI 0) (by decide) ?_
        refine Y_putI 26 rfl (pc2 := 49) rfl fl_re_30 ly_re (by decide) ⟨rfl, rfl⟩ ⟨_, _, _, rfl, rfl⟩ rfl ?_
        refine Y_iconst 27 rfl (pc2 := 50) rfl (v := nI 1) (by decide) ?_
        refine Y_iret 28 rfl rfl rfl ⟨rfl, ?_⟩
        dsimp only
        have e1 : aG = true := by
          cases aG with
          | true => rfl
          | false => exact absurd rfl h4
        have e2 : ¬ k = -1 := fun e => h10 (by rw [hx]; exact hn.mpr e)
        first
          | exact ⟨fR_u fR_51, Or.inr ⟨_, _, _, _, if_pos ⟨e1, e2⟩, rfl, RQ_u (RQ_set1 h.1 (by omega) (by omega) hx) (by decide), (uw_ne (by omega)).trans ((uw_ne (by omega)).trans h.2.1), (uw_ne (by omega)).trans ((uw_ne (by omega)).trans h.2.2.1), uw_same⟩⟩
          | exact ⟨fR_u fR_id, Or.inr ⟨_, _, _, _, if_pos ⟨e1, e2⟩, rfl, RQ_u (RQ_set2 h.1 (by omega)) (by decide), (uw_ne (by omega)).trans h.2.1, (uw_ne (by omega)).trans h.2.2.1, uw_same⟩⟩
      · refine Y_aload_n 12 rfl (pc2 := 24) rfl rfl ?_
        refine Y_getI 13 rfl (pc2 := 27) rfl fl_re_18 ly_re (by decide) rfl ?_
        refine Y_top (h.1.1) ?_
        refine Y_bipush 14 rfl (pc2 := 29) rfl (v := nI 32) (by decide) ?_
        refine Y_icmp_gtn 15 rfl (pc2 := 32) rfl (tgt := 44) (by decide) (by omega) (by omega) (fun h29 => ?_) (fun h29 => ?_)
        · refine Y_aload_n 24 rfl (pc2 := 45) rfl rfl ?_
          refine Y_iconst 25 rfl (pc2 := 46) rfl (v := nI 0) (by decide) ?_
          refine Y_putI 26 rfl (pc2 := 49) rfl fl_re_30 ly_re (by decide) ⟨rfl, rfl⟩ ⟨_, _, _, rfl, rfl⟩ rfl ?_
          refine Y_iconst 27 rfl (pc2 := 50) rfl (v := nI 1) (by decide) ?_
          refine Y_iret 28 rfl rfl rfl ⟨rfl, ?_⟩
          dsimp only
          have e1 : aG = true := by
            cases aG with
            | true => rfl
            | false => exact absurd rfl h4
          have e2 : ¬ k = -1 := fun e => h10 (by rw [hx]; exact hn.mpr e)
          first
            | exact ⟨fR_u fR_51, Or.inr ⟨_, _, _, _, if_pos ⟨e1, e2⟩, rfl, RQ_u (RQ_set1 h.1 (by omega) (by omega) hx) (by decide), (uw_ne (by omega)).trans ((uw_ne (by omega)).trans h.2.1), (uw_ne (by omega)).trans ((uw_ne (by omega)).trans h.2.2.1), uw_same⟩⟩
            | exact ⟨fR_u fR_id, Or.inr ⟨_, _, _, _, if_pos ⟨e1, e2⟩, rfl, RQ_u (RQ_set2 h.1 (by omega)) (by decide), (uw_ne (by omega)).trans h.2.1, (uw_ne (by omega)).trans h.2.2.1, uw_same⟩⟩
        · refine Y_aload_n 16 rfl (pc2 := 33) rfl rfl ?_
          refine Y_getR 17 rfl (pc2 := 36) rfl fl_re_15 ly_re (by decide) rfl rfl (by omega) ?_
          refine Y_aload_n 18 rfl (pc2 := 37) rfl rfl ?_
          refine Y_getI 19 rfl (pc2 := 40) rfl fl_re_18 ly_re (by decide) rfl ?_
          refine Y_top (h.1.1) ?_
          refine Y_iconst 20 rfl (pc2 := 41) rfl (v := nI 1) (by decide) ?_
          refine Y_isub 21 rfl (pc2 := 42) rfl ?_
          refine Y_top (nI_sub (by omega)) ?_
          refine Y_iload_n 22 rfl (pc2 := 43) rfl rfl ?_
          refine Y_iast 23 rfl (pc2 := 44) rfl ly_reG rfl (by omega) (by decide) rfl ?_
          refine Y_aload_n 24 rfl (pc2 := 45) rfl rfl ?_
          refine Y_iconst 25 rfl (pc2 := 46) rfl (v := nI 0) (by decide) ?_
          refine Y_putI 26 rfl (pc2 := 49) rfl fl_re_30 ly_re (by decide) ⟨rfl, rfl⟩ ⟨_, _, _, rfl, rfl⟩ rfl ?_
          refine Y_iconst 27 rfl (pc2 := 50) rfl (v := nI 1) (by decide) ?_
          refine Y_iret 28 rfl rfl rfl ⟨rfl, ?_⟩
          dsimp only
          have e1 : aG = true := by
            cases aG with
            | true => rfl
            | false => exact absurd rfl h4
          have e2 : ¬ k = -1 := fun e => h10 (by rw [hx]; exact hn.mpr e)
          first
            | exact ⟨fR_u fR_51, Or.inr ⟨_, _, _, _, if_pos ⟨e1, e2⟩, rfl, RQ_u (RQ_set1 h.1 (by omega) (by omega) hx) (by decide), (uw_ne (by omega)).trans ((uw_ne (by omega)).trans h.2.1), (uw_ne (by omega)).trans ((uw_ne (by omega)).trans h.2.2.1), uw_same⟩⟩
            | exact ⟨fR_u fR_id, Or.inr ⟨_, _, _, _, if_pos ⟨e1, e2⟩, rfl, RQ_u (RQ_set2 h.1 (by omega)) (by decide), (uw_ne (by omega)).trans h.2.1, (uw_ne (by omega)).trans h.2.2.1, uw_same⟩⟩
    · refine Y_iconst 6 rfl (pc2 := 14) rfl (v := nI 0) (by decide) ?_
      refine Y_iret 7 rfl rfl rfl ⟨rfl, ?_⟩
      dsimp only
      first
        | exact ⟨fR_id, Or.inl ⟨if_neg (fun e => by have e1 : aG = true := e.1; rw [e1] at h4; exact absurd h4 (by decide)), rfl⟩⟩
        | exact ⟨fR_id, Or.inl ⟨if_neg (fun e => e.2 (hn.mp (by rw [← hx]; first | exact h10 | exact Classical.byContradiction h10))), rfl⟩⟩

set_option maxHeartbeats 400000 in
theorem opI_none {op : Option Nat} (h : ∀ k, op = some k → k < 2 ^ 31) : opI op = NONE_ ↔ op = none := by
  cases op with
  | none => exact ⟨fun _ => rfl, fun _ => rfl⟩
  | some k => exact ⟨fun e => absurd e (nI_none (h k rfl)), fun e => by cases e⟩

set_option maxHeartbeats 400000 in
theorem T_re_takesOpening {G : Nat × (Nat → Int32)} {m : Mm} {q : Qt} {op : Option Nat} {aG : Bool} (h : RR m q (op) false aG) (hb : q.1 < 50000) (ho : ∀ k, op = some k → k ≤ q.1) : Y G M_re_takesOpening (0, 0) 0 (en_ M_re_takesOpening [.ref (3)]) [] (LAY, m) (qm_ LAY (pT_ m (if op = none then some (q, some q.1, false, false) else none))) := by
  change Y _ _ _ _ [some (.ref _)] _ _ _
  have hon := opI_none (op := op) (fun k e => by have := ho k e; omega)
  refine Y_aload_n 0 rfl (pc2 := 1) rfl rfl ?_
  refine Y_getI 1 rfl (pc2 := 4) rfl fl_re_23 ly_re (by decide) rfl ?_
  refine Y_top (h.2.1) ?_
  refine Y_ldc 2 rfl (pc2 := 6) rfl kc_re_22 ?_
  refine Y_icmp_eq 3 rfl (pc2 := 9) rfl (tgt := 11) (by decide) (fun h6 => ?_) (fun h6 => ?_)
  · refine Y_aload_n 6 rfl (pc2 := 12) rfl rfl ?_
    refine Y_aload_n 7 rfl (pc2 := 13) rfl rfl ?_
    refine Y_getI 8 rfl (pc2 := 16) rfl fl_re_18 ly_re (by decide) rfl ?_
    refine Y_top (h.1.1) ?_
    refine Y_putI 9 rfl (pc2 := 19) rfl fl_re_23 ly_re (by decide) ⟨rfl, rfl⟩ ⟨_, _, _, rfl, rfl⟩ rfl ?_
    refine Y_aload_n 10 rfl (pc2 := 20) rfl rfl ?_
    refine Y_iconst 11 rfl (pc2 := 21) rfl (v := nI 0) (by decide) ?_
    refine Y_putI 12 rfl (pc2 := 24) rfl fl_re_30 ly_re (by decide) ⟨rfl, rfl⟩ ⟨_, _, _, rfl, rfl⟩ rfl ?_
    refine Y_iconst 13 rfl (pc2 := 25) rfl (v := nI 1) (by decide) ?_
    refine Y_iret 14 rfl rfl rfl ⟨rfl, ?_⟩
    dsimp only
    exact ⟨fR_u (fR_u fR_id), Or.inr ⟨_, _, _, _, if_pos (hon.mp h6), rfl, RQ_u (RQ_u h.1 (by decide)) (by decide), (uw_ne (by omega)).trans uw_same, (uw_ne (by omega)).trans ((uw_ne (by omega)).trans h.2.2.1), uw_same⟩⟩
  · refine Y_iconst 4 rfl (pc2 := 10) rfl (v := nI 0) (by decide) ?_
    refine Y_iret 5 rfl rfl rfl ⟨rfl, ?_⟩
    dsimp only
    exact ⟨fR_id, Or.inl ⟨if_neg (fun e => h6 (hon.mpr e)), rfl⟩⟩

set_option maxHeartbeats 400000 in
theorem T_re_takesClosing {G : Nat × (Nat → Int32)} {m : Mm} {q : Qt} {op : Option Nat} {aG : Bool} (h : RR m q (op) false aG) (hb : q.1 < 50000) (ho : ∀ k, op = some k → k ≤ q.1) : Y G M_re_takesClosing (0, 0) 0 (en_ M_re_takesClosing [.ref (3)]) [] (LAY, m) (qm_ LAY (pT_ m (if op = none ∨ op = some q.1 then none else some (q, op, true, false)))) := by
  change Y _ _ _ _ [some (.ref _)] _ _ _
  have hon := opI_none (op := op) (fun k e => by have := ho k e; omega)
  refine Y_aload_n 0 rfl (pc2 := 1) rfl rfl ?_
  refine Y_getI 1 rfl (pc2 := 4) rfl fl_re_23 ly_re (by decide) rfl ?_
  refine Y_top (h.2.1) ?_
  refine Y_ldc 2 rfl (pc2 := 6) rfl kc_re_22 ?_
  refine Y_icmp_eq 3 rfl (pc2 := 9) rfl (tgt := 20) (by decide) (fun h6 => ?_) (fun h6 => ?_)
  · refine Y_iconst 9 rfl (pc2 := 21) rfl (v := nI 0) (by decide) ?_
    refine Y_iret 10 rfl rfl rfl ⟨rfl, ?_⟩
    dsimp only
    first
      | exact ⟨fR_id, Or.inl ⟨if_pos (Or.inl (hon.mp h6)), rfl⟩⟩
      | exact (by
          cases op with
          | none => exact absurd rfl h6
          | some k =>
            have e := (nI_eq (a := k) (b := q.1) (by have := ho k rfl; omega) (by omega)).mp (by first | exact h17 | exact Classical.byContradiction h17)
            rw [e]
            exact ⟨fR_id, Or.inl ⟨if_pos (Or.inr rfl), rfl⟩⟩)
  · refine Y_aload_n 4 rfl (pc2 := 10) rfl rfl ?_
    refine Y_getI 5 rfl (pc2 := 13) rfl fl_re_23 ly_re (by decide) rfl ?_
    refine Y_top (h.2.1) ?_
    refine Y_aload_n 6 rfl (pc2 := 14) rfl rfl ?_
    refine Y_getI 7 rfl (pc2 := 17) rfl fl_re_18 ly_re (by decide) rfl ?_
    refine Y_top (h.1.1) ?_
    refine Y_icmp_ne 8 rfl (pc2 := 20) rfl (tgt := 22) (by decide) (fun h17 => ?_) (fun h17 => ?_)
    · refine Y_aload_n 11 rfl (pc2 := 23) rfl rfl ?_
      refine Y_iconst 12 rfl (pc2 := 24) rfl (v := nI 1) (by decide) ?_
      refine Y_putI 13 rfl (pc2 := 27) rfl fl_re_26 ly_re (by decide) ⟨rfl, rfl⟩ ⟨_, _, _, rfl, rfl⟩ rfl ?_
      refine Y_aload_n 14 rfl (pc2 := 28) rfl rfl ?_
      refine Y_iconst 15 rfl (pc2 := 29) rfl (v := nI 0) (by decide) ?_
      refine Y_putI 16 rfl (pc2 := 32) rfl fl_re_30 ly_re (by decide) ⟨rfl, rfl⟩ ⟨_, _, _, rfl, rfl⟩ rfl ?_
      refine Y_iconst 17 rfl (pc2 := 33) rfl (v := nI 1) (by decide) ?_
      refine Y_iret 18 rfl rfl rfl ⟨rfl, ?_⟩
      dsimp only
      exact ⟨fR_u (fR_u fR_id), Or.inr ⟨_, _, _, _, if_neg (fun e => e.elim (fun q => h6 (hon.mpr q)) (fun q => h17 (by rw [q]; rfl))), rfl, RQ_u (RQ_u h.1 (by decide)) (by decide), (uw_ne (by omega)).trans ((uw_ne (by omega)).trans h.2.1), (uw_ne (by omega)).trans uw_same, uw_same⟩⟩
    · refine Y_iconst 9 rfl (pc2 := 21) rfl (v := nI 0) (by decide) ?_
      refine Y_iret 10 rfl rfl rfl ⟨rfl, ?_⟩
      dsimp only
      first
        | exact ⟨fR_id, Or.inl ⟨if_pos (Or.inl (hon.mp h6)), rfl⟩⟩
        | exact (by
            cases op with
            | none => exact absurd rfl h6
            | some k =>
              have e := (nI_eq (a := k) (b := q.1) (by have := ho k rfl; omega) (by omega)).mp (by first | exact h17 | exact Classical.byContradiction h17)
              rw [e]
              exact ⟨fR_id, Or.inl ⟨if_pos (Or.inr rfl), rfl⟩⟩)

set_option maxHeartbeats 400000 in
theorem T_re_takesTimes {G : Nat × (Nat → Int32)} {m : Mm} {q : Qt} {st : Nat} {aG : Bool} (h : RR m q (some st) true aG) (hb : q.1 < 50000) (hs : st < q.1) (hw : q.1 - st ≤ 64) {v : Nat} (hv : v < 128) : Y G M_re_takesTimes (0, 0) 0 (en_ M_re_takesTimes [.ref (3), .int (nI v)]) [] (LAY, m) (qm_ LAY (pT_ m (if 50 ≤ v ∧ v ≤ 57 then some (rp q st (q.1 - st) ((v - 49) * (q.1 - st)), none, false, aG) else none))) := by
  change Y _ _ _ _ [some (.ref _), some (.int _)] _ _ _
  refine Y_iload_n 0 rfl (pc2 := 1) rfl rfl ?_
  refine Y_bipush 1 rfl (pc2 := 3) rfl (v := nI 50) (by decide) ?_
  refine Y_icmp_ltn 2 rfl (pc2 := 6) rfl (tgt := 12) (by decide) (by omega) (by omega) (fun h3 => ?_) (fun h3 => ?_)
  · refine Y_iconst 6 rfl (pc2 := 13) rfl (v := nI 0) (by decide) ?_
    refine Y_iret 7 rfl rfl rfl ⟨rfl, ?_⟩
    dsimp only
    exact ⟨fR_id, Or.inl ⟨if_neg (by omega), rfl⟩⟩
  · refine Y_iload_n 3 rfl (pc2 := 7) rfl rfl ?_
    refine Y_bipush 4 rfl (pc2 := 9) rfl (v := nI 57) (by decide) ?_
    refine Y_icmp_len 5 rfl (pc2 := 12) rfl (tgt := 14) (by decide) (by omega) (by omega) (fun h9 => ?_) (fun h9 => ?_)
    · refine Y_aload_n 8 rfl (pc2 := 15) rfl rfl ?_
      refine Y_aload_n 9 rfl (pc2 := 16) rfl rfl ?_
      refine Y_getI 10 rfl (pc2 := 19) rfl fl_re_23 ly_re (by decide) rfl ?_
      refine Y_top (h.2.1) ?_
      refine Y_iload_n 11 rfl (pc2 := 20) rfl rfl ?_
      refine Y_bipush 12 rfl (pc2 := 22) rfl (v := nI 48) (by decide) ?_
      refine Y_isub 13 rfl (pc2 := 23) rfl ?_
      refine Y_top (nI_sub (by omega)) ?_
      refine Y_cV 14 rfl (pc2 := 26) rfl ok_re_repeatFrom lk_re_70 vi_re_repeatFrom ly_re rfl (by decide) rfl (as := [.int _, .int _]) (rest := []) rfl rfl (T_re_repeatFrom h.1 hs hw (by omega) (by omega) (by omega)) ?_
      rintro _ m1 ⟨rfl, hQ, hF⟩
      change Y _ _ _ _ _ [] _ _
      refine Y_aload_n 15 rfl (pc2 := 27) rfl rfl ?_
      refine Y_ldc 16 rfl (pc2 := 29) rfl kc_re_22 ?_
      refine Y_putI 17 rfl (pc2 := 32) rfl fl_re_23 ly_re (by decide) ⟨rfl, rfl⟩ ⟨_, _, _, rfl, rfl⟩ rfl ?_
      refine Y_aload_n 18 rfl (pc2 := 33) rfl rfl ?_
      refine Y_iconst 19 rfl (pc2 := 34) rfl (v := nI 0) (by decide) ?_
      refine Y_putI 20 rfl (pc2 := 37) rfl fl_re_26 ly_re (by decide) ⟨rfl, rfl⟩ ⟨_, _, _, rfl, rfl⟩ rfl ?_
      refine Y_iconst 21 rfl (pc2 := 38) rfl (v := nI 1) (by decide) ?_
      refine Y_iret 22 rfl rfl rfl ⟨rfl, ?_⟩
      dsimp only
      exact ⟨fR_u (fR_u hF.1), Or.inr ⟨_, _, _, _, if_pos (by omega), rfl, RQ_u (RQ_u (by rw [show v - 48 - 1 = v - 49 by omega] at hQ; exact hQ) (by decide)) (by decide), (uw_ne (by omega)).trans uw_same, uw_same, (uw_ne (by omega)).trans ((uw_ne (by omega)).trans ((hF.2 5 (by decide)).trans h.2.2.2))⟩⟩
    · refine Y_iconst 6 rfl (pc2 := 13) rfl (v := nI 0) (by decide) ?_
      refine Y_iret 7 rfl rfl rfl ⟨rfl, ?_⟩
      dsimp only
      exact ⟨fR_id, Or.inl ⟨if_neg (by omega), rfl⟩⟩

set_option maxHeartbeats 400000 in
theorem lk_no : ∀ v, v < 128 → ¬ v = 71 → ¬ v = 72 → ¬ v = 76 → ¬ v = 103 → Op.lookupswitch.offset [(71, 45), (72, 47), (76, 49), (103, 43)] 51 (nI v).toInt = 51 := by decide +kernel

set_option maxHeartbeats 400000 in
theorem T_re_kindOf {G : Nat × (Nat → Int32)} {m : Mm} {v : Nat} (hv : v < 128) : Y G M_re_kindOf (0, 0) 0 (en_ M_re_kindOf [.int (nI v)]) [] (LAY, m) (qm_ LAY (pu_ (oC (gkn v)) m)) := by
  change Y _ _ _ _ [some (.int _)] _ _ _
  refine Y_iload_n 0 rfl (pc2 := 1) rfl rfl ?_
  by_cases h1 : v = 71
  · subst h1
    refine Y_lookup 1 rfl (by decide) (off := 45) (by decide) (pc2 := 46) (by decide) ?_
    refine Y_iconst 4 rfl (pc2 := 47) rfl (v := nI 1) (by decide) ?_
    exact Y_iret 5 rfl rfl rfl ⟨rfl, pu_i rfl⟩
  by_cases h2 : v = 72
  · subst h2
    refine Y_lookup 1 rfl (by decide) (off := 47) (by decide) (pc2 := 48) (by decide) ?_
    refine Y_iconst 6 rfl (pc2 := 49) rfl (v := nI 2) (by decide) ?_
    exact Y_iret 7 rfl rfl rfl ⟨rfl, pu_i rfl⟩
  by_cases h3 : v = 76
  · subst h3
    refine Y_lookup 1 rfl (by decide) (off := 49) (by decide) (pc2 := 50) (by decide) ?_
    refine Y_iconst 8 rfl (pc2 := 51) rfl (v := nI 3) (by decide) ?_
    exact Y_iret 9 rfl rfl rfl ⟨rfl, pu_i rfl⟩
  by_cases h4 : v = 103
  · subst h4
    refine Y_lookup 1 rfl (by decide) (off := 43) (by decide) (pc2 := 44) (by decide) ?_
    refine Y_iconst 2 rfl (pc2 := 45) rfl (v := nI 0) (by decide) ?_
    exact Y_iret 3 rfl rfl rfl ⟨rfl, pu_i rfl⟩
  refine Y_lookup 1 rfl (by decide) (off := 51) (lk_no v hv h1 h2 h3 h4) (pc2 := 52) (by decide) ?_
  refine Y_ldc 10 rfl (pc2 := 54) rfl kc_re_22 ?_
  exact Y_iret 11 rfl rfl rfl ⟨rfl, pu_i (by unfold gkn; rw [if_neg h4, if_neg h1, if_neg h2, if_neg h3]; rfl)⟩
