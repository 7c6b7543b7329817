/-! the reference: reading a tune -/
def MTq (m : Mm) (q : Qt) (p : Nat) : Prop := m 153 15 = nI p ∧ m 153 16 = nI q.1 ∧ ∀ i, i < 32 → i < q.1 → m 167 i = q.2.1 i ∧ m 168 i = q.2.2 i
def fM (m m' : Mm) : Prop := ∀ a k, ¬ (a = 167 ∨ a = 168 ∨ (a = 153 ∧ (k = 15 ∨ k = 16))) → m' a k = m a k
set_option maxHeartbeats 400000 in
theorem fM_id {m : Mm} : fM m m := fun _ _ _ => rfl
set_option maxHeartbeats 400000 in
theorem fM_t {m1 m2 m3 : Mm} (h1 : fM m1 m2) (h2 : fM m2 m3) : fM m1 m3 := fun a k h => (h2 a k h).trans (h1 a k h)
set_option maxHeartbeats 400000 in
theorem fM_u {m m' : Mm} {a k : Nat} {v : Int32} (h : fM m m') (ha : a = 167 ∨ a = 168 ∨ (a = 153 ∧ (k = 15 ∨ k = 16))) : fM m (uw_ m' a k v) := fun b j hb => by
  rw [uw_ne (by rintro ⟨rfl, rfl⟩; exact hb ha)]; exact h b j hb
set_option maxHeartbeats 400000 in
theorem RM_fM {m m' S : Mm} (h : RM m S) (f : fM m m') : RM m' S :=
  ⟨fun a h1 h2 => funext fun k => by rw [f a k (by omega)]; exact h.e h1 h2, by rw [f 153 6 (by omega)]; exact h.2.1, by rw [f 153 12 (by omega)]; exact h.2.2⟩
set_option maxHeartbeats 400000 in
theorem fM_lo {m m' : Mm} (f : fM m m') {a : Nat} (ha : a < 153) : m' a = m a := funext fun k => f a k (by omega)
set_option maxHeartbeats 400000 in
theorem MTq_p {m : Mm} {q : Qt} {p : Nat} {p2 : Nat} (h : MTq m q p) : MTq (uw_ m 153 15 (nI p2)) q p2 :=
  ⟨uw_same, (uw_ne (by omega)).trans h.2.1, fun i h1 h2 => ⟨(uw_ne (by omega)).trans (h.2.2 i h1 h2).1, (uw_ne (by omega)).trans (h.2.2 i h1 h2).2⟩⟩
set_option maxHeartbeats 400000 in
theorem MTq_push1 {m : Mm} {q : Qt} {p : Nat} {a g : Int32} (h : MTq m q p) (hn : q.1 < 32) : MTq (uw_ (uw_ (uw_ m 167 q.1 a) 168 q.1 g) 153 16 (nI (q.1 + 1))) (qpush q a g) p := by
  refine ⟨by rw [uw_ne (by omega), uw_ne (by omega), uw_ne (by omega)]; exact h.1, uw_same, fun i hi hq => ?_⟩
  have hq2 : i < q.1 + 1 := hq
  by_cases e : i = q.1
  · subst e
    refine ⟨?_, ?_⟩
    · rw [uw_ne (by omega), uw_ne (by omega), uw_same]
      show _ = (if q.1 = q.1 then a else _)
      rw [if_pos rfl]
    · rw [uw_ne (by omega), uw_same]
      show _ = (if q.1 = q.1 then g else _)
      rw [if_pos rfl]
  · obtain ⟨p1, p2⟩ := h.2.2 i hi (by omega)
    refine ⟨?_, ?_⟩
    · rw [uw_ne (by omega), uw_ne (by omega), uw_ne (by omega), p1]
      show _ = (if i = q.1 then a else _)
      rw [if_neg e]
    · rw [uw_ne (by omega), uw_ne (by omega), uw_ne (by omega), p2]
      show _ = (if i = q.1 then g else _)
      rw [if_neg e]
set_option maxHeartbeats 400000 in
theorem MTq_push2 {m : Mm} {q : Qt} {p : Nat} {a g : Int32} (h : MTq m q p) (hn : ¬ q.1 < 32) : MTq (uw_ m 153 16 (nI (q.1 + 1))) (qpush q a g) p := by
  refine ⟨(uw_ne (by omega)).trans h.1, uw_same, fun i hi hq => ?_⟩
  obtain ⟨p1, p2⟩ := h.2.2 i hi (by omega)
  refine ⟨?_, ?_⟩
  · rw [uw_ne (by omega), p1]
    show _ = (if i = q.1 then a else _)
    rw [if_neg (by omega)]
  · rw [uw_ne (by omega), p2]
    show _ = (if i = q.1 then g else _)
    rw [if_neg (by omega)]
def hre (S : Mm) (p : Nat) : Int32 := if p < tpd S then nI (tpf S p) else -1
def ibh (S : Mm) (p : Nat) : Prop := p < tpd S ∧ (tpf S p = 46 ∨ (49 ≤ tpf S p ∧ tpf S p ≤ 55))
set_option maxHeartbeats 400000 in
theorem tpf_is {S : Mm} (w : WF S) {p : Nat} (hp : p < tpd S) : S 164 p = nI (tpf S p) ∧ tpf S p < 256 := by
  have := w.tp.2
  obtain ⟨k, hk, e⟩ := w.tv p (by omega)
  unfold tpf
  rw [e, nv_nI (by omega)]
  exact ⟨rfl, hk⟩
set_option maxHeartbeats 400000 in
theorem hre_eq {S : Mm} (w : WF S) {p c : Nat} (hc : c < 256) : hre S p = nI c ↔ (p < tpd S ∧ tpf S p = c) := by
  unfold hre
  by_cases h : p < tpd S
  · rw [if_pos h]
    have := (tpf_is w h).2
    exact ⟨fun e => ⟨h, (nI_eq (by omega) (by omega)).mp e⟩, fun e => by rw [e.2]⟩
  · rw [if_neg h]
    refine ⟨fun e => ?_, fun e => absurd e.1 h⟩
    have : nI c < 0 := by rw [← e]; decide
    exact absurd this (nI_pos (by omega))
set_option maxHeartbeats 400000 in
theorem hre_in {S : Mm} (w : WF S) {p a b : Nat} (ha : a < 256) (hb : b < 256) : (nI a ≤ hre S p ∧ hre S p ≤ nI b) ↔ (p < tpd S ∧ a ≤ tpf S p ∧ tpf S p ≤ b) := by
  unfold hre
  by_cases h : p < tpd S
  · rw [if_pos h, nI_leI (by omega) (by have := (tpf_is w h).2; omega), nI_leI (by have := (tpf_is w h).2; omega) (by omega)]
    exact ⟨fun e => ⟨h, e⟩, fun e => e.2⟩
  · rw [if_neg h]
    refine ⟨fun e => ?_, fun e => absurd e.1 h⟩
    have h1 := nI_pos' (n := a) (by omega)
    have := Int32.le_trans h1 e.1
    exact absurd this (by decide)

set_option maxHeartbeats 400000 in
theorem T_mo_here {G : Nat × (Nat → Int32)} {m : Mm} {S : Mm} (h : RM m S) (w : WF S) {p : Nat} (hp : m 153 15 = nI p) (hpb : p ≤ 70) : Y G M_mo_here (0, 0) 0 (en_ M_mo_here [.ref (153)]) [] (LAY, m) (qm_ LAY (pu_ (hre S p) m)) := by
  change Y _ _ _ _ [some (.ref _)] _ _ _
  have ht := w.tp.2
  refine Y_aload_n 0 rfl (pc2 := 1) rfl rfl ?_
  refine Y_getI 1 rfl (pc2 := 4) rfl fl_mo_80 ly_mo (by decide) rfl ?_
  refine Y_top (hp) ?_
  refine Y_aload_n 2 rfl (pc2 := 5) rfl rfl ?_
  refine Y_getI 3 rfl (pc2 := 8) rfl fl_mo_70 ly_mo (by decide) rfl ?_
  refine Y_top (h.2.2.trans w.tp.1) ?_
  refine Y_icmp_gen 4 rfl (pc2 := 11) rfl (tgt := 23) (by decide) (by omega) (by omega) (fun h8 => ?_) (fun h8 => ?_)
  · refine Y_iconst 11 rfl (pc2 := 24) rfl (v := -1) (by decide) ?_
    refine Y_iret 12 rfl rfl rfl ⟨rfl, ?_⟩
    dsimp only
    first | exact pu_i (if_neg (by omega)).symm | exact pu_i (if_pos (by omega)).symm
  · refine Y_aload_n 5 rfl (pc2 := 12) rfl rfl ?_
    refine Y_getR 6 rfl (pc2 := 15) rfl fl_mo_41 ly_mo (by decide) rfl rfl (by omega) ?_
    refine Y_aload_n 7 rfl (pc2 := 16) rfl rfl ?_
    refine Y_getI 8 rfl (pc2 := 19) rfl fl_mo_80 ly_mo (by decide) rfl ?_
    refine Y_top (hp) ?_
    refine Y_iald 9 rfl (pc2 := 20) rfl ly_mo_tape rfl (by omega) (by decide) ?_
    refine Y_top ((h.e (by decide) (by decide)).trans (tpf_is w (by omega)).1) ?_
    refine Y_goto 10 rfl (pc2 := 24) (by decide) ?_
    refine Y_iret 12 rfl rfl rfl ⟨rfl, ?_⟩
    dsimp only
    first | exact pu_i (if_neg (by omega)).symm | exact pu_i (if_pos (by omega)).symm

set_option maxHeartbeats 400000 in
theorem T_mo_isBeatHere {G : Nat × (Nat → Int32)} {m : Mm} {S : Mm} (h : RM m S) (w : WF S) {p : Nat} (hp : m 153 15 = nI p) (hpb : p ≤ 70) : Y G M_mo_isBeatHere (0, 0) 0 (en_ M_mo_isBeatHere [.ref (153)]) [] (LAY, m) (qm_ LAY (pu_ (bI (ibh S p)) m)) := by
  change Y _ _ _ _ [some (.ref _)] _ _ _
  refine Y_aload_n 0 rfl (pc2 := 1) rfl rfl ?_
  refine Y_cV 1 rfl (pc2 := 4) rfl ok_mo_here lk_mo_83 vi_mo_here ly_mo rfl (by decide) rfl (as := []) (rest := []) rfl rfl (T_mo_here h w hp hpb) ?_
  rintro _ _ ⟨rfl, rfl⟩
  change Y _ _ _ _ _ [.int _] _ _
  refine Y_bipush 2 rfl (pc2 := 6) rfl (v := nI 46) (by decide) ?_
  refine Y_icmp_eq 3 rfl (pc2 := 9) rfl (tgt := 23) (by decide) (fun h6 => ?_) (fun h6 => ?_)
  · refine Y_iconst 10 rfl (pc2 := 24) rfl (v := nI 1) (by decide) ?_
    refine Y_goto 11 rfl (pc2 := 28) (by decide) ?_
    refine Y_iret 13 rfl rfl rfl ⟨rfl, ?_⟩
    dsimp only
    have z1 := hre_eq w (p := p) (c := 46) (by decide)
    have z2 := hre_in w (p := p) (a := 49) (b := 55) (by decide) (by decide)
    first
      | exact pu_t ⟨(z1.mp h6).1, Or.inl (z1.mp h6).2⟩
      | exact pu_t ⟨(z2.mp h20).1, Or.inr (z2.mp h20).2⟩
      | exact pu_f (fun e => e.2.elim (fun z => h6 (z1.mpr ⟨e.1, z⟩)) (fun z => h20 (z2.mpr ⟨e.1, z⟩)))
  · refine Y_aload_n 4 rfl (pc2 := 10) rfl rfl ?_
    refine Y_cV 5 rfl (pc2 := 13) rfl ok_mo_here lk_mo_83 vi_mo_here ly_mo rfl (by decide) rfl (as := []) (rest := []) rfl rfl (T_mo_here h w hp hpb) ?_
    rintro _ _ ⟨rfl, rfl⟩
    change Y _ _ _ _ _ [.int _] _ _
    refine Y_bipush 6 rfl (pc2 := 15) rfl (v := nI 49) (by decide) ?_
    refine Y_bipush 7 rfl (pc2 := 17) rfl (v := nI 55) (by decide) ?_
    refine Y_cS 8 rfl (pc2 := 20) rfl ok_mo_isIn lk_mo_62 vs_mo_isIn (as := [.int _, .int _, .int _]) (rest := []) rfl rfl T_mo_isIn ?_
    rintro _ _ ⟨rfl, rfl⟩
    change Y _ _ _ _ _ [.int _] _ _
    refine Y_if_eqb 9 rfl (pc2 := 23) rfl (tgt := 27) (by decide) (fun h20 => ?_) (fun h20 => ?_)
    · refine Y_iconst 12 rfl (pc2 := 28) rfl (v := nI 0) (by decide) ?_
      refine Y_iret 13 rfl rfl rfl ⟨rfl, ?_⟩
      dsimp only
      have z1 := hre_eq w (p := p) (c := 46) (by decide)
      have z2 := hre_in w (p := p) (a := 49) (b := 55) (by decide) (by decide)
      first
        | exact pu_t ⟨(z1.mp h6).1, Or.inl (z1.mp h6).2⟩
        | exact pu_t ⟨(z2.mp h20).1, Or.inr (z2.mp h20).2⟩
        | exact pu_f (fun e => e.2.elim (fun z => h6 (z1.mpr ⟨e.1, z⟩)) (fun z => h20 (z2.mpr ⟨e.1, z⟩)))
    · refine Y_iconst 10 rfl (pc2 := 24) rfl (v := nI 1) (by decide) ?_
      refine Y_goto 11 rfl (pc2 := 28) (by decide) ?_
      refine Y_iret 13 rfl rfl rfl ⟨rfl, ?_⟩
      dsimp only
      have z1 := hre_eq w (p := p) (c := 46) (by decide)
      have z2 := hre_in w (p := p) (a := 49) (b := 55) (by decide) (by decide)
      first
        | exact pu_t ⟨(z1.mp h6).1, Or.inl (z1.mp h6).2⟩
        | exact pu_t ⟨(z2.mp h20).1, Or.inr (z2.mp h20).2⟩
        | exact pu_f (fun e => e.2.elim (fun z => h6 (z1.mpr ⟨e.1, z⟩)) (fun z => h20 (z2.mpr ⟨e.1, z⟩)))

def pW_ (m : Mm) (q : Qt) (p : Nat) : Option Value → Mm → Prop := fun v m' => v = none ∧ MTq m' q p ∧ fM m m'

set_option maxHeartbeats 400000 in
theorem T_mo_write {G : Nat × (Nat → Int32)} {m : Mm} {q : Qt} {p : Nat} {a g x y : Int32} (h : MTq m q p) (hb : q.1 < 1000000) (hx : q.1 < 32 → x = a ∧ y = g) : Y G M_mo_write (0, 0) 0 (en_ M_mo_write [.ref (153), .int (x), .int (y)]) [] (LAY, m) (qm_ LAY (pW_ m (qpush q a g) p)) := by
  change Y _ _ _ _ [some (.ref _), some (.int _), some (.int _)] _ _ _
  refine Y_aload_n 0 rfl (pc2 := 1) rfl rfl ?_
  refine Y_getI 1 rfl (pc2 := 4) rfl fl_mo_87 ly_mo (by decide) rfl ?_
  refine Y_top (h.2.1) ?_
  refine Y_bipush 2 rfl (pc2 := 6) rfl (v := nI 32) (by decide) ?_
  refine Y_icmp_gen 3 rfl (pc2 := 9) rfl (tgt := 29) (by decide) (by omega) (by omega) (fun h6 => ?_) (fun h6 => ?_)
  · refine Y_aload_n 16 rfl (pc2 := 30) rfl rfl ?_
    refine Y_dup 17 rfl (pc2 := 31) rfl rfl ?_
    refine Y_getI 18 rfl (pc2 := 34) rfl fl_mo_87 ly_mo (by decide) rfl ?_
    refine Y_top (by first | exact h.2.1 | exact (uw_ne (by omega)).trans ((uw_ne (by omega)).trans h.2.1)) ?_
    refine Y_iconst 19 rfl (pc2 := 35) rfl (v := nI 1) (by decide) ?_
    refine Y_iadd 20 rfl (pc2 := 36) rfl ?_
    refine Y_top (nI_add _ _) ?_
    refine Y_putI 21 rfl (pc2 := 39) rfl fl_mo_87 ly_mo (by decide) ⟨rfl, rfl⟩ ⟨_, _, _, rfl, rfl⟩ rfl ?_
    refine Y_vret 22 rfl rfl ⟨rfl, ?_⟩
    dsimp only
    exact ⟨rfl, MTq_push2 h (by omega), fM_u fM_id (by omega)⟩
  · refine Y_aload_n 4 rfl (pc2 := 10) rfl rfl ?_
    refine Y_getR 5 rfl (pc2 := 13) rfl fl_mo_50 ly_mo (by decide) rfl rfl (by omega) ?_
    refine Y_aload_n 6 rfl (pc2 := 14) rfl rfl ?_
    refine Y_getI 7 rfl (pc2 := 17) rfl fl_mo_87 ly_mo (by decide) rfl ?_
    refine Y_top (h.2.1) ?_
    refine Y_iload_n 8 rfl (pc2 := 18) rfl rfl ?_
    refine Y_iast 9 rfl (pc2 := 19) rfl ly_mo_newNotes rfl (by omega) (by decide) rfl ?_
    refine Y_aload_n 10 rfl (pc2 := 20) rfl rfl ?_
    refine Y_getR 11 rfl (pc2 := 23) rfl fl_mo_53 ly_mo (by decide) rfl rfl (by omega) ?_
    refine Y_aload_n 12 rfl (pc2 := 24) rfl rfl ?_
    refine Y_getI 13 rfl (pc2 := 27) rfl fl_mo_87 ly_mo (by decide) rfl ?_
    refine Y_top ((uw_ne (by omega)).trans h.2.1) ?_
    refine Y_iload_n 14 rfl (pc2 := 28) rfl rfl ?_
    refine Y_iast 15 rfl (pc2 := 29) rfl ly_mo_newGongs rfl (by omega) (by decide) rfl ?_
    refine Y_aload_n 16 rfl (pc2 := 30) rfl rfl ?_
    refine Y_dup 17 rfl (pc2 := 31) rfl rfl ?_
    refine Y_getI 18 rfl (pc2 := 34) rfl fl_mo_87 ly_mo (by decide) rfl ?_
    refine Y_top (by first | exact h.2.1 | exact (uw_ne (by omega)).trans ((uw_ne (by omega)).trans h.2.1)) ?_
    refine Y_iconst 19 rfl (pc2 := 35) rfl (v := nI 1) (by decide) ?_
    refine Y_iadd 20 rfl (pc2 := 36) rfl ?_
    refine Y_top (nI_add _ _) ?_
    refine Y_putI 21 rfl (pc2 := 39) rfl fl_mo_87 ly_mo (by decide) ⟨rfl, rfl⟩ ⟨_, _, _, rfl, rfl⟩ rfl ?_
    refine Y_vret 22 rfl rfl ⟨rfl, ?_⟩
    dsimp only
    obtain ⟨rfl, rfl⟩ := hx (by omega)
    exact ⟨rfl, MTq_push1 h (by omega), fM_u (fM_u (fM_u fM_id (by omega)) (by omega)) (by omega)⟩

def ntB (S : Mm) (p : Nat) : Int32 := if tpf S p = 46 then -1 else nI (tpf S p - 49)
def ggB (S : Mm) (p : Nat) : Int32 := if p + 1 < tpd S then gkn (tpf S (p + 1)) else -1
def pnB (S : Mm) (p : Nat) : Nat := if ggB S p < 0 then p + 1 else p + 2
set_option maxHeartbeats 400000 in
theorem ch_gk : ∀ v, v < 256 → ch (nI v) = gkn v := by decide +kernel
set_option maxHeartbeats 400000 in
theorem ch_hre {S : Mm} (w : WF S) {p : Nat} : ch (hre S (p + 1)) = ggB S p := by
  unfold hre ggB
  by_cases h : p + 1 < tpd S
  · rw [if_pos h, if_pos h]; exact ch_gk _ (tpf_is w h).2
  · rw [if_neg h, if_neg h]; decide
set_option maxHeartbeats 400000 in
theorem gg_or {S : Mm} {p : Nat} : oR (ggB S p) 4 := by
  unfold ggB
  split
  · exact gk_or _
  · exact Or.inl rfl
set_option maxHeartbeats 400000 in
theorem gg_nv {S : Mm} {p : Nat} (h : ¬ ggB S p < 0) : p + 1 < tpd S ∧ ggB S p = gkn (tpf S (p + 1)) := by
  by_cases e : p + 1 < tpd S
  · exact ⟨e, if_pos e⟩
  · exfalso
    apply h
    rw [show ggB S p = -1 from if_neg e]; decide
set_option maxHeartbeats 400000 in
theorem pn_le {S : Mm} {p : Nat} (hp : p < tpd S) : p < pnB S p ∧ pnB S p ≤ tpd S := by
  unfold pnB
  split
  · omega
  · rename_i h
    have := (gg_nv h).1
    omega
set_option maxHeartbeats 400000 in
theorem set_push {q : Qt} {a g k : Int32} : qset (qpush q a g) k = qpush q a k := by
  unfold qset qpush
  refine Prod.ext rfl (Prod.ext rfl ?_)
  funext i
  show (if i + 1 = q.1 + 1 then k else if i = q.1 then g else q.2.2 i) = if i = q.1 then k else q.2.2 i
  by_cases e : i = q.1
  · rw [if_pos (by omega), if_pos e]
  · rw [if_neg (by omega), if_neg e, if_neg e]
set_option maxHeartbeats 400000 in
theorem stp_aG {v : Nat} {q : Qt} {op : Option Nat} (h : gkn v = -1) : stp v (q, op, false, true) = stp v (q, op, false, false) := by
  unfold stp
  simp only [h, not_true_eq_false, and_false, if_false, Bool.false_eq_true]
set_option maxHeartbeats 400000 in
theorem au_beat {S : Mm} (w : WF S) {p : Nat} {q : Qt} {op : Option Nat} (hb : ibh S p) : au (tpf S) (tpd S - p) p (q, op, false, false) = au (tpf S) (tpd S - pnB S p) (pnB S p) (qpush q (ntB S p) (ggB S p), op, false, false) := by
  obtain ⟨hp, hv⟩ := hb
  have h1 : stp (tpf S p) (q, op, false, false) = some (qpush q (ntB S p) (-1), op, false, true) := by
    unfold ntB
    by_cases e : tpf S p = 46
    · rw [if_pos e]
      exact (if_neg (fun z => Bool.false_ne_true z)).trans ((if_neg (show ¬ tpf S p = 91 by omega)).trans ((if_neg (show ¬ tpf S p = 93 by omega)).trans (if_pos e)))
    · rw [if_neg e]
      exact (if_neg (fun z => Bool.false_ne_true z)).trans ((if_neg (show ¬ tpf S p = 91 by omega)).trans ((if_neg (show ¬ tpf S p = 93 by omega)).trans ((if_neg e).trans (if_pos (by omega)))))
  rw [show tpd S - p = (tpd S - (p + 1)) + 1 by omega, au_go h1]
  by_cases hg : ggB S p < 0
  · rw [show pnB S p = p + 1 from if_pos hg]
    have hm : ggB S p = -1 := (oR_neg (by decide) gg_or).mp hg
    rw [hm]
    by_cases e : p + 1 < tpd S
    · have hk : gkn (tpf S (p + 1)) = -1 := by rw [← hm]; exact (if_pos e).symm
      rw [show tpd S - (p + 1) = (tpd S - (p + 2)) + 1 by omega]
      cases hs : stp (tpf S (p + 1)) (qpush q (ntB S p) (-1), op, false, false) with
      | none => rw [au_no hs, au_no ((stp_aG hk).trans hs)]
      | some s2 => rw [au_go hs, au_go ((stp_aG hk).trans hs)]
    · rw [show tpd S - (p + 1) = 0 by omega]
      rfl
  · obtain ⟨e, hk⟩ := gg_nv hg
    have hkn : ¬ gkn (tpf S (p + 1)) = -1 := fun z => hg (by rw [hk, z]; decide)
    rw [show pnB S p = p + 2 from if_neg hg, show tpd S - (p + 1) = (tpd S - (p + 2)) + 1 by omega]
    have hc : tpf S (p + 1) = 103 ∨ tpf S (p + 1) = 71 ∨ tpf S (p + 1) = 72 ∨ tpf S (p + 1) = 76 := by
      unfold gkn at hkn
      by_cases a1 : tpf S (p + 1) = 103
      · exact Or.inl a1
      · by_cases a2 : tpf S (p + 1) = 71
        · exact Or.inr (Or.inl a2)
        · by_cases a3 : tpf S (p + 1) = 72
          · exact Or.inr (Or.inr (Or.inl a3))
          · by_cases a4 : tpf S (p + 1) = 76
            · exact Or.inr (Or.inr (Or.inr a4))
            · rw [if_neg a1, if_neg a2, if_neg a3, if_neg a4] at hkn
              exact absurd rfl hkn
    have h2 : stp (tpf S (p + 1)) (qpush q (ntB S p) (-1), op, false, true) = some (qset (qpush q (ntB S p) (-1)) (gkn (tpf S (p + 1))), op, false, false) :=
      (if_neg (fun z => Bool.false_ne_true z)).trans ((if_neg (show ¬ tpf S (p + 1) = 91 by omega)).trans ((if_neg (show ¬ tpf S (p + 1) = 93 by omega)).trans ((if_neg (show ¬ tpf S (p + 1) = 46 by omega)).trans ((if_neg (show ¬ (49 ≤ tpf S (p + 1) ∧ tpf S (p + 1) ≤ 55) by omega)).trans (if_pos ⟨rfl, hkn⟩)))))
    rw [au_go h2, set_push, hk]

set_option maxHeartbeats 400000 in
theorem T_mo_readBeat {G : Nat × (Nat → Int32)} {m : Mm} {S : Mm} (h : RM m S) (w : WF S) {q : Qt} {p : Nat} (hQ : MTq m q p) (hb : ibh S p) (hn : q.1 < 50000) : Y G M_mo_readBeat (0, 0) 0 (en_ M_mo_readBeat [.ref (153)]) [] (LAY, m) (qm_ LAY (pW_ m (qpush q (ntB S p) (ggB S p)) (pnB S p))) := by
  change Y _ _ _ _ [some (.ref _), none, none] _ _ _
  have hp := hQ.1
  have ht := w.tp.2
  have hpb : p ≤ 70 := by have := hb.1; omega
  have hpp := hb.1
  have z1 := hre_eq w (p := p) (c := 46) (by decide)
  refine Y_aload_n 0 rfl (pc2 := 1) rfl rfl ?_
  refine Y_cV 1 rfl (pc2 := 4) rfl ok_mo_here lk_mo_83 vi_mo_here ly_mo rfl (by decide) rfl (as := []) (rest := []) rfl rfl (T_mo_here h w hp hpb) ?_
  rintro _ _ ⟨rfl, rfl⟩
  change Y _ _ _ _ _ [.int _] _ _
  refine Y_bipush 2 rfl (pc2 := 6) rfl (v := nI 46) (by decide) ?_
  refine Y_icmp_ne 3 rfl (pc2 := 9) rfl (tgt := 13) (by decide) (fun h6 => ?_) (fun h6 => ?_)
  · refine Y_aload_n 6 rfl (pc2 := 14) rfl rfl ?_
    refine Y_cV 7 rfl (pc2 := 17) rfl ok_mo_here lk_mo_83 vi_mo_here ly_mo rfl (by decide) rfl (as := []) (rest := []) rfl rfl (T_mo_here h w hp hpb) ?_
    rintro _ _ ⟨rfl, rfl⟩
    change Y _ _ _ _ _ [.int _] _ _
    refine Y_bipush 8 rfl (pc2 := 19) rfl (v := nI 49) (by decide) ?_
    refine Y_isub 9 rfl (pc2 := 20) rfl ?_
    refine Y_top (show _ = ntB S p from (by rw [show hre S p = nI (tpf S p) from if_pos hpp, nI_sub (by have := hb.2; have : ¬ tpf S p = 46 := fun z => h6 (z1.mpr ⟨hpp, z⟩); omega)]; exact (if_neg (fun z => h6 (z1.mpr ⟨hpp, z⟩))).symm)) ?_
    refine Y_istore_n 10 rfl (pc2 := 21) rfl (Nat.le_of_ble_eq_true rfl) (ls2 := [some (.ref _), some (.int _), none]) rfl ?_
    refine Y_aload_n 11 rfl (pc2 := 22) rfl rfl ?_
    refine Y_dup 12 rfl (pc2 := 23) rfl rfl ?_
    refine Y_getI 13 rfl (pc2 := 26) rfl fl_mo_80 ly_mo (by decide) rfl ?_
    refine Y_top (hp) ?_
    refine Y_iconst 14 rfl (pc2 := 27) rfl (v := nI 1) (by decide) ?_
    refine Y_iadd 15 rfl (pc2 := 28) rfl ?_
    refine Y_top (nI_add _ _) ?_
    refine Y_putI 16 rfl (pc2 := 31) rfl fl_mo_80 ly_mo (by decide) ⟨rfl, rfl⟩ ⟨_, _, _, rfl, rfl⟩ rfl ?_
    refine Y_aload_n 17 rfl (pc2 := 32) rfl rfl ?_
    refine Y_cV 18 rfl (pc2 := 35) rfl ok_mo_here lk_mo_83 vi_mo_here ly_mo rfl (by decide) rfl (as := []) (rest := []) rfl rfl (T_mo_here (RM_s h (by decide) (by decide)) w (p := p + 1) uw_same (by omega)) ?_
    rintro _ _ ⟨rfl, rfl⟩
    change Y _ _ _ _ _ [.int _] _ _
    refine Y_cS 19 rfl (pc2 := 38) rfl ok_mo_gongOf lk_mo_90 vs_mo_gongOf (as := [.int _]) (rest := []) rfl rfl T_mo_gongOf ?_
    rintro _ _ ⟨rfl, rfl⟩
    change Y _ _ _ _ _ [.int _] _ _
    refine Y_top (ch_hre w) ?_
    refine Y_istore_n 20 rfl (pc2 := 39) rfl (Nat.le_of_ble_eq_true rfl) (ls2 := [some (.ref _), some (.int _), some (.int _)]) rfl ?_
    refine Y_aload_n 21 rfl (pc2 := 40) rfl rfl ?_
    refine Y_dup 22 rfl (pc2 := 41) rfl rfl ?_
    refine Y_getI 23 rfl (pc2 := 44) rfl fl_mo_80 ly_mo (by decide) rfl ?_
    refine Y_top (uw_same) ?_
    refine Y_iload_n 24 rfl (pc2 := 45) rfl rfl ?_
    refine Y_if_ge 25 rfl (pc2 := 48) rfl (tgt := 52) (by decide) (fun h45 => ?_) (fun h45 => ?_)
    · refine Y_iconst 28 rfl (pc2 := 53) rfl (v := nI 1) (by decide) ?_
      refine Y_iadd 29 rfl (pc2 := 54) rfl ?_
      refine Y_top (nI_add _ _) ?_
      refine Y_top (congrArg nI (show _ = pnB S p from (if_neg (Int32.not_lt.mpr h45)).symm)) ?_
      refine Y_putI 30 rfl (pc2 := 57) rfl fl_mo_80 ly_mo (by decide) ⟨rfl, rfl⟩ ⟨_, _, _, rfl, rfl⟩ rfl ?_
      refine Y_aload_n 31 rfl (pc2 := 58) rfl rfl ?_
      refine Y_iload_n 32 rfl (pc2 := 59) rfl rfl ?_
      refine Y_iload_n 33 rfl (pc2 := 60) rfl rfl ?_
      refine Y_cV 34 rfl (pc2 := 63) rfl ok_mo_write lk_mo_94 vi_mo_write ly_mo rfl (by decide) rfl (as := [.int _, .int _]) (rest := []) rfl rfl (T_mo_write (MTq_p (p2 := pnB S p) (MTq_p (p2 := p + 1) hQ)) (by omega) (fun _ => ⟨rfl, rfl⟩)) ?_
      rintro _ m2 ⟨rfl, hQ2, hF2⟩
      change Y _ _ _ _ _ [] _ _
      refine Y_vret 35 rfl rfl ⟨rfl, ?_⟩
      dsimp only
      exact ⟨rfl, hQ2, fM_t (fM_u (fM_u fM_id (by omega)) (by omega)) hF2⟩
    · refine Y_iconst 26 rfl (pc2 := 49) rfl (v := nI 0) (by decide) ?_
      refine Y_goto 27 rfl (pc2 := 53) (by decide) ?_
      refine Y_iadd 29 rfl (pc2 := 54) rfl ?_
      refine Y_top (nI_add _ _) ?_
      refine Y_top (congrArg nI (show _ = pnB S p from (if_pos (Int32.not_le.mp h45)).symm)) ?_
      refine Y_putI 30 rfl (pc2 := 57) rfl fl_mo_80 ly_mo (by decide) ⟨rfl, rfl⟩ ⟨_, _, _, rfl, rfl⟩ rfl ?_
      refine Y_aload_n 31 rfl (pc2 := 58) rfl rfl ?_
      refine Y_iload_n 32 rfl (pc2 := 59) rfl rfl ?_
      refine Y_iload_n 33 rfl (pc2 := 60) rfl rfl ?_
      refine Y_cV 34 rfl (pc2 := 63) rfl ok_mo_write lk_mo_94 vi_mo_write ly_mo rfl (by decide) rfl (as := [.int _, .int _]) (rest := []) rfl rfl (T_mo_write (MTq_p (p2 := pnB S p) (MTq_p (p2 := p + 1) hQ)) (by omega) (fun _ => ⟨rfl, rfl⟩)) ?_
      rintro _ m2 ⟨rfl, hQ2, hF2⟩
      change Y _ _ _ _ _ [] _ _
      refine Y_vret 35 rfl rfl ⟨rfl, ?_⟩
      dsimp only
      exact ⟨rfl, hQ2, fM_t (fM_u (fM_u fM_id (by omega)) (by omega)) hF2⟩
  · refine Y_iconst 4 rfl (pc2 := 10) rfl (v := -1) (by decide) ?_
    refine Y_goto 5 rfl (pc2 := 20) (by decide) ?_
    refine Y_top (show _ = ntB S p from (if_pos (z1.mp (by first | exact h6 | exact Classical.byContradiction h6)).2).symm) ?_
    refine Y_istore_n 10 rfl (pc2 := 21) rfl (Nat.le_of_ble_eq_true rfl) (ls2 := [some (.ref _), some (.int _), none]) rfl ?_
    refine Y_aload_n 11 rfl (pc2 := 22) rfl rfl ?_
    refine Y_dup 12 rfl (pc2 := 23) rfl rfl ?_
    refine Y_getI 13 rfl (pc2 := 26) rfl fl_mo_80 ly_mo (by decide) rfl ?_
    refine Y_top (hp) ?_
    refine Y_iconst 14 rfl (pc2 := 27) rfl (v := nI 1) (by decide) ?_
    refine Y_iadd 15 rfl (pc2 := 28) rfl ?_
    refine Y_top (nI_add _ _) ?_
    refine Y_putI 16 rfl (pc2 := 31) rfl fl_mo_80 ly_mo (by decide) ⟨rfl, rfl⟩ ⟨_, _, _, rfl, rfl⟩ rfl ?_
    refine Y_aload_n 17 rfl (pc2 := 32) rfl rfl ?_
    refine Y_cV 18 rfl (pc2 := 35) rfl ok_mo_here lk_mo_83 vi_mo_here ly_mo rfl (by decide) rfl (as := []) (rest := []) rfl rfl (T_mo_here (RM_s h (by decide) (by decide)) w (p := p + 1) uw_same (by omega)) ?_
    rintro _ _ ⟨rfl, rfl⟩
    change Y _ _ _ _ _ [.int _] _ _
    refine Y_cS 19 rfl (pc2 := 38) rfl ok_mo_gongOf lk_mo_90 vs_mo_gongOf (as := [.int _]) (rest := []) rfl rfl T_mo_gongOf ?_
    rintro _ _ ⟨rfl, rfl⟩
    change Y _ _ _ _ _ [.int _] _ _
    refine Y_top (ch_hre w) ?_
    refine Y_istore_n 20 rfl (pc2 := 39) rfl (Nat.le_of_ble_eq_true rfl) (ls2 := [some (.ref _), some (.int _), some (.int _)]) rfl ?_
    refine Y_aload_n 21 rfl (pc2 := 40) rfl rfl ?_
    refine Y_dup 22 rfl (pc2 := 41) rfl rfl ?_
    refine Y_getI 23 rfl (pc2 := 44) rfl fl_mo_80 ly_mo (by decide) rfl ?_
    refine Y_top (uw_same) ?_
    refine Y_iload_n 24 rfl (pc2 := 45) rfl rfl ?_
    refine Y_if_ge 25 rfl (pc2 := 48) rfl (tgt := 52) (by decide) (fun h45 => ?_) (fun h45 => ?_)
    · refine Y_iconst 28 rfl (pc2 := 53) rfl (v := nI 1) (by decide) ?_
      refine Y_iadd 29 rfl (pc2 := 54) rfl ?_
      refine Y_top (nI_add _ _) ?_
      refine Y_top (congrArg nI (show _ = pnB S p from (if_neg (Int32.not_lt.mpr h45)).symm)) ?_
      refine Y_putI 30 rfl (pc2 := 57) rfl fl_mo_80 ly_mo (by decide) ⟨rfl, rfl⟩ ⟨_, _, _, rfl, rfl⟩ rfl ?_
      refine Y_aload_n 31 rfl (pc2 := 58) rfl rfl ?_
      refine Y_iload_n 32 rfl (pc2 := 59) rfl rfl ?_
      refine Y_iload_n 33 rfl (pc2 := 60) rfl rfl ?_
      refine Y_cV 34 rfl (pc2 := 63) rfl ok_mo_write lk_mo_94 vi_mo_write ly_mo rfl (by decide) rfl (as := [.int _, .int _]) (rest := []) rfl rfl (T_mo_write (MTq_p (p2 := pnB S p) (MTq_p (p2 := p + 1) hQ)) (by omega) (fun _ => ⟨rfl, rfl⟩)) ?_
      rintro _ m2 ⟨rfl, hQ2, hF2⟩
      change Y _ _ _ _ _ [] _ _
      refine Y_vret 35 rfl rfl ⟨rfl, ?_⟩
      dsimp only
      exact ⟨rfl, hQ2, fM_t (fM_u (fM_u fM_id (by omega)) (by omega)) hF2⟩
    · refine Y_iconst 26 rfl (pc2 := 49) rfl (v := nI 0) (by decide) ?_
      refine Y_goto 27 rfl (pc2 := 53) (by decide) ?_
      refine Y_iadd 29 rfl (pc2 := 54) rfl ?_
      refine Y_top (nI_add _ _) ?_
      refine Y_top (congrArg nI (show _ = pnB S p from (if_pos (Int32.not_le.mp h45)).symm)) ?_
      refine Y_putI 30 rfl (pc2 := 57) rfl fl_mo_80 ly_mo (by decide) ⟨rfl, rfl⟩ ⟨_, _, _, rfl, rfl⟩ rfl ?_
      refine Y_aload_n 31 rfl (pc2 := 58) rfl rfl ?_
      refine Y_iload_n 32 rfl (pc2 := 59) rfl rfl ?_
      refine Y_iload_n 33 rfl (pc2 := 60) rfl rfl ?_
      refine Y_cV 34 rfl (pc2 := 63) rfl ok_mo_write lk_mo_94 vi_mo_write ly_mo rfl (by decide) rfl (as := [.int _, .int _]) (rest := []) rfl rfl (T_mo_write (MTq_p (p2 := pnB S p) (MTq_p (p2 := p + 1) hQ)) (by omega) (fun _ => ⟨rfl, rfl⟩)) ?_
      rintro _ m2 ⟨rfl, hQ2, hF2⟩
      change Y _ _ _ _ _ [] _ _
      refine Y_vret 35 rfl rfl ⟨rfl, ?_⟩
      dsimp only
      exact ⟨rfl, hQ2, fM_t (fM_u (fM_u fM_id (by omega)) (by omega)) hF2⟩
