/-! the reference: brackets, tunes -/
set_option maxHeartbeats 400000 in
theorem hr_no {S : Mm} (w : WF S) {p c : Nat} (hc : c < 256) (h : ¬ hre S p = nI c) (hp : p < tpd S) : ¬ tpf S p = c := fun e => h ((hre_eq w hc).mpr ⟨hp, e⟩)
set_option maxHeartbeats 400000 in
theorem au_x1 {S : Mm} (w : WF S) {p st : Nat} {q : Qt} (hp : p ≤ tpd S) (hb : ¬ ibh S p) (h : ¬ hre S p = nI 93 ∨ st = q.1) : au (tpf S) (tpd S - p) p (q, some st, false, false) = (some p, q) := by
  by_cases e : p < tpd S
  · rw [show tpd S - p = (tpd S - (p + 1)) + 1 by omega]
    refine au_no ?_
    have b1 : ¬ tpf S p = 46 := fun z => hb ⟨e, Or.inl z⟩
    have b2 : ¬ (49 ≤ tpf S p ∧ tpf S p ≤ 55) := fun z => hb ⟨e, Or.inr z⟩
    refine (if_neg (fun z => Bool.false_ne_true z)).trans ?_
    by_cases c1 : tpf S p = 91
    · exact (if_pos c1).trans (if_neg (fun z => by cases z))
    · refine (if_neg c1).trans ?_
      by_cases c2 : tpf S p = 93
      · refine (if_pos c2).trans (if_pos ?_)
        rcases h with h | h
        · exact absurd c2 (hr_no w (by decide) h e)
        · exact Or.inr (by rw [h])
      · exact (if_neg c2).trans ((if_neg b1).trans ((if_neg b2).trans (if_neg (fun z => Bool.false_ne_true z.1))))
  · rw [show tpd S - p = 0 by omega]
    exact if_neg (fun z => by cases z.2)
set_option maxHeartbeats 400000 in
theorem au_cl {S : Mm} (w : WF S) {p st : Nat} {q : Qt} (h : hre S p = nI 93) (hs : st < q.1) : p < tpd S ∧ au (tpf S) (tpd S - p) p (q, some st, false, false) = au (tpf S) (tpd S - (p + 1)) (p + 1) (q, some st, true, false) := by
  obtain ⟨e, hv⟩ := (hre_eq w (by decide)).mp h
  refine ⟨e, ?_⟩
  rw [show tpd S - p = (tpd S - (p + 1)) + 1 by omega]
  refine au_go ?_
  refine (if_neg (fun z => Bool.false_ne_true z)).trans ((if_neg (show ¬ tpf S p = 91 by omega)).trans ((if_pos hv).trans (if_neg ?_)))
  rintro (z | z)
  · cases z
  · have : st = q.1 := Option.some.inj z
    omega
set_option maxHeartbeats 400000 in
theorem au_tn {S : Mm} (w : WF S) {p st : Nat} {q : Qt} (hp : p ≤ tpd S) (h : ¬ (nI 50 ≤ hre S p ∧ hre S p ≤ nI 57)) : au (tpf S) (tpd S - p) p (q, some st, true, false) = (some p, q) := by
  by_cases e : p < tpd S
  · rw [show tpd S - p = (tpd S - (p + 1)) + 1 by omega]
    refine au_no ((if_pos rfl).trans (if_neg (fun z => h ((hre_in w (by decide) (by decide)).mpr ⟨e, z⟩))))
  · rw [show tpd S - p = 0 by omega]
    exact if_neg (fun z => by cases z.2)
set_option maxHeartbeats 400000 in
theorem au_ty {S : Mm} (w : WF S) {p st : Nat} {q : Qt} (h : nI 50 ≤ hre S p ∧ hre S p ≤ nI 57) : (p < tpd S ∧ 50 ≤ tpf S p ∧ tpf S p ≤ 57) ∧ au (tpf S) (tpd S - p) p (q, some st, true, false) = au (tpf S) (tpd S - (p + 1)) (p + 1) (rp q st (q.1 - st) ((tpf S p - 49) * (q.1 - st)), none, false, false) := by
  have e := (hre_in w (by decide) (by decide)).mp h
  refine ⟨e, ?_⟩
  rw [show tpd S - p = (tpd S - (p + 1)) + 1 by omega]
  exact au_go ((if_pos rfl).trans (if_pos e.2))
set_option maxHeartbeats 400000 in
theorem au_op {S : Mm} (w : WF S) {p : Nat} {q : Qt} (h : hre S p = nI 91) : p < tpd S ∧ au (tpf S) (tpd S - p) p (q, none, false, false) = au (tpf S) (tpd S - (p + 1)) (p + 1) (q, some q.1, false, false) := by
  obtain ⟨e, hv⟩ := (hre_eq w (by decide)).mp h
  refine ⟨e, ?_⟩
  rw [show tpd S - p = (tpd S - (p + 1)) + 1 by omega]
  exact au_go ((if_neg (fun z => Bool.false_ne_true z)).trans ((if_pos hv).trans (if_pos rfl)))
set_option maxHeartbeats 400000 in
theorem au_x0 {S : Mm} (w : WF S) {p : Nat} {q : Qt} (hp : p ≤ tpd S) (hb : ¬ ibh S p) (h : ¬ hre S p = nI 91) (hq : p < tpd S ∨ q.1 = 0) : au (tpf S) (tpd S - p) p (q, none, false, false) = (some p, q) := by
  by_cases e : p < tpd S
  · rw [show tpd S - p = (tpd S - (p + 1)) + 1 by omega]
    refine au_no ?_
    have b1 : ¬ tpf S p = 46 := fun z => hb ⟨e, Or.inl z⟩
    have b2 : ¬ (49 ≤ tpf S p ∧ tpf S p ≤ 55) := fun z => hb ⟨e, Or.inr z⟩
    refine (if_neg (fun z => Bool.false_ne_true z)).trans ((if_neg (hr_no w (by decide) h e)).trans ?_)
    by_cases c2 : tpf S p = 93
    · exact (if_pos c2).trans (if_pos (Or.inl rfl))
    · exact (if_neg c2).trans ((if_neg b1).trans ((if_neg b2).trans (if_neg (fun z => Bool.false_ne_true z.1))))
  · rw [show tpd S - p = 0 by omega]
    exact if_neg (fun z => by have : 0 < q.1 := z.1; omega)
set_option maxHeartbeats 400000 in
theorem au_e0 {S : Mm} {q : Qt} (hq : ¬ q.1 = 0) : au (tpf S) (tpd S - tpd S) (tpd S) (q, none, false, false) = (none, q) := by
  rw [Nat.sub_self]
  exact if_pos ⟨by show 0 < q.1; omega, rfl⟩
/-- a false answer: the fault's place is read; a true one: the rest's answer is the whole's -/
def pR_ (m S : Mm) (R : Option Nat × Qt) (p0 : Nat) : Option Value → Mm → Prop := fun v m' => fM m m' ∧ ((v = some (.int (nI 0)) ∧ ∃ p q, R = (some p, q) ∧ m' 153 15 = nI p) ∨ (v = some (.int (nI 1)) ∧ ∃ p q, p0 < p ∧ p ≤ tpd S ∧ 1 ≤ q.1 ∧ q.1 ≤ 600 * p ∧ MTq m' q p ∧ au (tpf S) (tpd S - p) p (q, none, false, false) = R))

set_option maxHeartbeats 400000 in
theorem L_rag {G : Nat × (Nat → Int32)} {m : Mm} {S : Mm} (h0 : RM m S) (w : WF S) {R : Option Nat × Qt} {p p0 st : Nat} {q : Qt} (hp0 : p0 ≤ p) (hpl : p < tpd S) (hv : 50 ≤ tpf S p ∧ tpf S p ≤ 57) (hst : st < q.1) (hw : q.1 - st ≤ 64) (hqb : q.1 ≤ 600 * p) (hR : au (tpf S) (tpd S - (p + 1)) (p + 1) (rp q st (q.1 - st) ((tpf S p - 49) * (q.1 - st)), none, false, false) = R) : ∀ k, k ≤ (q.1 - st) * (tpf S p - 49) → ∀ m1, MTq m1 (rp q st (q.1 - st) k) p → fM m m1 → ∀ (u : Option Value), Y G M_mo_readAgain (0, 0) 84 [some (.ref 153), some (.int (nI st)), some (.int (nI (q.1 - st))), some (.int (nI k)), u] [] (LAY, m1) (qm_ LAY (pR_ m S R p0)) := by
  have ht := w.tp.2
  have hh : hre S p = nI (tpf S p) := if_pos hpl
  have hb8 : (q.1 - st) * (tpf S p - 49) ≤ 64 * 8 := Nat.mul_le_mul hw (by omega)
  have hb9 : (tpf S p - 49) * (q.1 - st) ≤ 8 * 64 := Nat.mul_le_mul (by omega) hw
  have hmc : (tpf S p - 49) * (q.1 - st) = (q.1 - st) * (tpf S p - 49) := Nat.mul_comm _ _
  refine ind_ (fun k hk ih m1 hQ hF u => ?_)
  refine Y_iload_n 47 rfl (pc2 := 85) rfl rfl ?_
  refine Y_iload_n 48 rfl (pc2 := 86) rfl rfl ?_
  refine Y_aload_n 49 rfl (pc2 := 87) rfl rfl ?_
  refine Y_cV 50 rfl (pc2 := 90) rfl ok_mo_here lk_mo_83 vi_mo_here ly_mo rfl (by decide) rfl (as := []) (rest := [.int _, .int _]) rfl rfl (T_mo_here (RM_fM h0 hF) w hQ.1 (by omega)) ?_
  rintro _ _ ⟨rfl, rfl⟩
  change Y _ _ _ _ _ [.int _, .int _, .int _] _ _
  refine Y_top hh ?_
  refine Y_bipush 51 rfl (pc2 := 92) rfl (v := nI 49) (by decide) ?_
  refine Y_isub 52 rfl (pc2 := 93) rfl ?_
  refine Y_top (nI_sub (by omega)) ?_
  refine Y_imul 53 rfl (pc2 := 94) rfl ?_
  refine Y_top (nI_mul _ _) ?_
  refine Y_icmp_gen 54 rfl (pc2 := 97) rfl (tgt := 150) (by decide) (by omega) (by omega) (fun h94 => ?_) (fun h94 => ?_)
  · refine Y_aload_n 83 rfl (pc2 := 151) rfl rfl ?_
    refine Y_dup 84 rfl (pc2 := 152) rfl rfl ?_
    refine Y_getI 85 rfl (pc2 := 155) rfl fl_mo_80 ly_mo (by decide) rfl ?_
    refine Y_top (hQ.1) ?_
    refine Y_iconst 86 rfl (pc2 := 156) rfl (v := nI 1) (by decide) ?_
    refine Y_iadd 87 rfl (pc2 := 157) rfl ?_
    refine Y_top (nI_add _ _) ?_
    refine Y_putI 88 rfl (pc2 := 160) rfl fl_mo_80 ly_mo (by decide) ⟨rfl, rfl⟩ ⟨_, _, _, rfl, rfl⟩ rfl ?_
    refine Y_iconst 89 rfl (pc2 := 161) rfl (v := nI 1) (by decide) ?_
    refine Y_iret 90 rfl rfl rfl ⟨rfl, ?_⟩
    dsimp only
    refine ⟨fM_u hF (by omega), Or.inr ⟨rfl, p + 1, rp q st (q.1 - st) ((tpf S p - 49) * (q.1 - st)), by omega, by omega, by rw [rp_n]; omega, by rw [rp_n]; omega, ?_, hR⟩⟩
    rw [show k = (tpf S p - 49) * (q.1 - st) by rw [Nat.mul_comm]; omega] at hQ
    exact MTq_p hQ
  · have hm : k % (q.1 - st) < (q.1 - st) := Nat.mod_lt _ (by omega)
    refine Y_iload_n 55 rfl (pc2 := 98) rfl rfl ?_
    refine Y_iload_n 56 rfl (pc2 := 99) rfl rfl ?_
    refine Y_iload_n 57 rfl (pc2 := 100) rfl rfl ?_
    refine Y_irem 58 rfl (pc2 := 101) rfl (by exact nI_ne0 (by omega) (by omega)) ?_
    refine Y_top (nI_rem (by omega) (by omega)) ?_
    refine Y_iadd 59 rfl (pc2 := 102) rfl ?_
    refine Y_top (nI_add _ _) ?_
    refine Y_istore 60 rfl (pc2 := 104) rfl (Nat.le_of_ble_eq_true rfl) (ls2 := [some (.ref _), some (.int _), some (.int _), some (.int _), some (.int _)]) rfl ?_
    refine Y_aload_n 61 rfl (pc2 := 105) rfl rfl ?_
    refine Y_iload 62 rfl (pc2 := 107) rfl rfl ?_
    refine Y_bipush 63 rfl (pc2 := 109) rfl (v := nI 32) (by decide) ?_
    refine Y_icmp_gen 64 rfl (pc2 := 112) rfl (tgt := 122) (by decide) (by omega) (by omega) (fun h109 => ?_) (fun h109 => ?_)
    · refine Y_iconst 70 rfl (pc2 := 123) rfl (v := -1) (by decide) ?_
      refine Y_iload 71 rfl (pc2 := 125) rfl rfl ?_
      refine Y_bipush 72 rfl (pc2 := 127) rfl (v := nI 32) (by decide) ?_
      refine Y_icmp_gen 73 rfl (pc2 := 130) rfl (tgt := 140) (by decide) (by omega) (by omega) (fun h127 => ?_) (fun h127 => ?_)
      · refine Y_iconst 79 rfl (pc2 := 141) rfl (v := -1) (by decide) ?_
        refine Y_cV 80 rfl (pc2 := 144) rfl ok_mo_write lk_mo_94 vi_mo_write ly_mo rfl (by decide) rfl (as := [.int _, .int _]) (rest := []) rfl rfl (T_mo_write (a := (rp q st (q.1 - st) k).2.1 (st + k % (q.1 - st))) (g := (rp q st (q.1 - st) k).2.2 (st + k % (q.1 - st))) hQ (by rw [rp_n]; omega) (fun hlt => by rw [rp_n] at hlt; first | exact ⟨rfl, rfl⟩ | (exfalso; omega))) ?_
        rintro _ m2 ⟨rfl, hQ2, hF2⟩
        change Y _ _ _ _ _ [] _ _
        refine Y_iinc 81 rfl (pc2 := 147) rfl rfl (nI_inc _ 1) (ls2 := [some (.ref _), some (.int _), some (.int _), some (.int _), some (.int _)]) rfl ?_
        refine Y_goto 82 rfl (pc2 := 84) (by decide) ?_
        exact ih (k + 1) (by omega) (by omega) m2 hQ2 (fM_t hF hF2) _
      · refine Y_aload_n 74 rfl (pc2 := 131) rfl rfl ?_
        refine Y_getR 75 rfl (pc2 := 134) rfl fl_mo_53 ly_mo (by decide) rfl rfl (by omega) ?_
        refine Y_iload 76 rfl (pc2 := 136) rfl rfl ?_
        refine Y_iald 77 rfl (pc2 := 137) rfl ly_mo_newGongs rfl (by omega) (by decide) ?_
        refine Y_top ((hQ.2.2 _ (by omega) (by rw [rp_n]; omega)).2) ?_
        refine Y_goto 78 rfl (pc2 := 141) (by decide) ?_
        refine Y_cV 80 rfl (pc2 := 144) rfl ok_mo_write lk_mo_94 vi_mo_write ly_mo rfl (by decide) rfl (as := [.int _, .int _]) (rest := []) rfl rfl (T_mo_write (a := (rp q st (q.1 - st) k).2.1 (st + k % (q.1 - st))) (g := (rp q st (q.1 - st) k).2.2 (st + k % (q.1 - st))) hQ (by rw [rp_n]; omega) (fun hlt => by rw [rp_n] at hlt; first | exact ⟨rfl, rfl⟩ | (exfalso; omega))) ?_
        rintro _ m2 ⟨rfl, hQ2, hF2⟩
        change Y _ _ _ _ _ [] _ _
        refine Y_iinc 81 rfl (pc2 := 147) rfl rfl (nI_inc _ 1) (ls2 := [some (.ref _), some (.int _), some (.int _), some (.int _), some (.int _)]) rfl ?_
        refine Y_goto 82 rfl (pc2 := 84) (by decide) ?_
        exact ih (k + 1) (by omega) (by omega) m2 hQ2 (fM_t hF hF2) _
    · refine Y_aload_n 65 rfl (pc2 := 113) rfl rfl ?_
      refine Y_getR 66 rfl (pc2 := 116) rfl fl_mo_50 ly_mo (by decide) rfl rfl (by omega) ?_
      refine Y_iload 67 rfl (pc2 := 118) rfl rfl ?_
      refine Y_iald 68 rfl (pc2 := 119) rfl ly_mo_newNotes rfl (by omega) (by decide) ?_
      refine Y_top ((hQ.2.2 _ (by omega) (by rw [rp_n]; omega)).1) ?_
      refine Y_goto 69 rfl (pc2 := 123) (by decide) ?_
      refine Y_iload 71 rfl (pc2 := 125) rfl rfl ?_
      refine Y_bipush 72 rfl (pc2 := 127) rfl (v := nI 32) (by decide) ?_
      refine Y_icmp_gen 73 rfl (pc2 := 130) rfl (tgt := 140) (by decide) (by omega) (by omega) (fun h127 => ?_) (fun h127 => ?_)
      · refine Y_iconst 79 rfl (pc2 := 141) rfl (v := -1) (by decide) ?_
        refine Y_cV 80 rfl (pc2 := 144) rfl ok_mo_write lk_mo_94 vi_mo_write ly_mo rfl (by decide) rfl (as := [.int _, .int _]) (rest := []) rfl rfl (T_mo_write (a := (rp q st (q.1 - st) k).2.1 (st + k % (q.1 - st))) (g := (rp q st (q.1 - st) k).2.2 (st + k % (q.1 - st))) hQ (by rw [rp_n]; omega) (fun hlt => by rw [rp_n] at hlt; first | exact ⟨rfl, rfl⟩ | (exfalso; omega))) ?_
        rintro _ m2 ⟨rfl, hQ2, hF2⟩
        change Y _ _ _ _ _ [] _ _
        refine Y_iinc 81 rfl (pc2 := 147) rfl rfl (nI_inc _ 1) (ls2 := [some (.ref _), some (.int _), some (.int _), some (.int _), some (.int _)]) rfl ?_
        refine Y_goto 82 rfl (pc2 := 84) (by decide) ?_
        exact ih (k + 1) (by omega) (by omega) m2 hQ2 (fM_t hF hF2) _
      · refine Y_aload_n 74 rfl (pc2 := 131) rfl rfl ?_
        refine Y_getR 75 rfl (pc2 := 134) rfl fl_mo_53 ly_mo (by decide) rfl rfl (by omega) ?_
        refine Y_iload 76 rfl (pc2 := 136) rfl rfl ?_
        refine Y_iald 77 rfl (pc2 := 137) rfl ly_mo_newGongs rfl (by omega) (by decide) ?_
        refine Y_top ((hQ.2.2 _ (by omega) (by rw [rp_n]; omega)).2) ?_
        refine Y_goto 78 rfl (pc2 := 141) (by decide) ?_
        refine Y_cV 80 rfl (pc2 := 144) rfl ok_mo_write lk_mo_94 vi_mo_write ly_mo rfl (by decide) rfl (as := [.int _, .int _]) (rest := []) rfl rfl (T_mo_write (a := (rp q st (q.1 - st) k).2.1 (st + k % (q.1 - st))) (g := (rp q st (q.1 - st) k).2.2 (st + k % (q.1 - st))) hQ (by rw [rp_n]; omega) (fun hlt => by rw [rp_n] at hlt; first | exact ⟨rfl, rfl⟩ | (exfalso; omega))) ?_
        rintro _ m2 ⟨rfl, hQ2, hF2⟩
        change Y _ _ _ _ _ [] _ _
        refine Y_iinc 81 rfl (pc2 := 147) rfl rfl (nI_inc _ 1) (ls2 := [some (.ref _), some (.int _), some (.int _), some (.int _), some (.int _)]) rfl ?_
        refine Y_goto 82 rfl (pc2 := 84) (by decide) ?_
        exact ih (k + 1) (by omega) (by omega) m2 hQ2 (fM_t hF hF2) _

set_option maxHeartbeats 400000 in
theorem L_rab {G : Nat × (Nat → Int32)} {m : Mm} {S : Mm} (h0 : RM m S) (w : WF S) {R : Option Nat × Qt} {p0 st : Nat} : ∀ p, p ≤ tpd S → p0 ≤ p → ∀ m1 (q : Qt), MTq m1 q p → fM m m1 → q.1 ≤ 600 * p → st ≤ q.1 → q.1 - st ≤ p → (st < q.1 ∨ ibh S p) → au (tpf S) (tpd S - p) p (q, some st, false, false) = R → Y G M_mo_readAgain (0, 0) 24 [some (.ref 153), some (.int (nI st)), none, none, none] [] (LAY, m1) (qm_ LAY (pR_ m S R p0)) := by
  have ht := w.tp.2
  refine ind_ (fun p hp ih hp0 m1 q hQ hF hqb hst0 hqs hor hR => ?_)
  refine Y_aload_n 14 rfl (pc2 := 25) rfl rfl ?_
  refine Y_cV 15 rfl (pc2 := 28) rfl ok_mo_isBeatHere lk_mo_98 vi_mo_isBeatHere ly_mo rfl (by decide) rfl (as := []) (rest := []) rfl rfl (T_mo_isBeatHere (RM_fM h0 hF) w hQ.1 (by omega)) ?_
  rintro _ _ ⟨rfl, rfl⟩
  change Y _ _ _ _ _ [.int _] _ _
  refine Y_if_eqb 16 rfl (pc2 := 31) rfl (tgt := 38) (by decide) (fun h28 => ?_) (fun h28 => ?_)
  · have hst : st < q.1 := hor.resolve_right h28
    refine Y_aload_n 20 rfl (pc2 := 39) rfl rfl ?_
    refine Y_cV 21 rfl (pc2 := 42) rfl ok_mo_here lk_mo_83 vi_mo_here ly_mo rfl (by decide) rfl (as := []) (rest := []) rfl rfl (T_mo_here (RM_fM h0 hF) w hQ.1 (by omega)) ?_
    rintro _ _ ⟨rfl, rfl⟩
    change Y _ _ _ _ _ [.int _] _ _
    refine Y_bipush 22 rfl (pc2 := 44) rfl (v := nI 93) (by decide) ?_
    refine Y_icmp_eq 23 rfl (pc2 := 47) rfl (tgt := 49) (by decide) (fun h44 => ?_) (fun h44 => ?_)
    · obtain ⟨hpt, hcl⟩ := au_cl w h44 hst
      rw [hcl] at hR
      refine Y_aload_n 26 rfl (pc2 := 50) rfl rfl ?_
      refine Y_dup 27 rfl (pc2 := 51) rfl rfl ?_
      refine Y_getI 28 rfl (pc2 := 54) rfl fl_mo_80 ly_mo (by decide) rfl ?_
      refine Y_top (hQ.1) ?_
      refine Y_iconst 29 rfl (pc2 := 55) rfl (v := nI 1) (by decide) ?_
      refine Y_iadd 30 rfl (pc2 := 56) rfl ?_
      refine Y_top (nI_add _ _) ?_
      refine Y_putI 31 rfl (pc2 := 59) rfl fl_mo_80 ly_mo (by decide) ⟨rfl, rfl⟩ ⟨_, _, _, rfl, rfl⟩ rfl ?_
      refine Y_aload_n 32 rfl (pc2 := 60) rfl rfl ?_
      refine Y_cV 33 rfl (pc2 := 63) rfl ok_mo_here lk_mo_83 vi_mo_here ly_mo rfl (by decide) rfl (as := []) (rest := []) rfl rfl (T_mo_here (RM_s (RM_fM h0 hF) (by decide) (by decide)) w (p := p + 1) uw_same (by omega)) ?_
      rintro _ _ ⟨rfl, rfl⟩
      change Y _ _ _ _ _ [.int _] _ _
      refine Y_bipush 34 rfl (pc2 := 65) rfl (v := nI 50) (by decide) ?_
      refine Y_bipush 35 rfl (pc2 := 67) rfl (v := nI 57) (by decide) ?_
      refine Y_cS 36 rfl (pc2 := 70) rfl ok_mo_isIn lk_mo_62 vs_mo_isIn (as := [.int _, .int _, .int _]) (rest := []) rfl rfl T_mo_isIn ?_
      rintro _ _ ⟨rfl, rfl⟩
      change Y _ _ _ _ _ [.int _] _ _
      refine Y_if_neb 37 rfl (pc2 := 73) rfl (tgt := 75) (by decide) (fun h70 => ?_) (fun h70 => ?_)
      · obtain ⟨⟨hpt2, hv⟩, hty⟩ := au_ty (st := st) (q := q) w h70
        rw [hty] at hR
        refine Y_aload_n 40 rfl (pc2 := 76) rfl rfl ?_
        refine Y_getI 41 rfl (pc2 := 79) rfl fl_mo_87 ly_mo (by decide) rfl ?_
        refine Y_top ((uw_ne (by omega)).trans hQ.2.1) ?_
        refine Y_iload_n 42 rfl (pc2 := 80) rfl rfl ?_
        refine Y_isub 43 rfl (pc2 := 81) rfl ?_
        refine Y_top (nI_sub (by omega)) ?_
        refine Y_istore_n 44 rfl (pc2 := 82) rfl (Nat.le_of_ble_eq_true rfl) (ls2 := [some (.ref _), some (.int _), some (.int _), none, none]) rfl ?_
        refine Y_iconst 45 rfl (pc2 := 83) rfl (v := nI 0) (by decide) ?_
        refine Y_istore_n 46 rfl (pc2 := 84) rfl (Nat.le_of_ble_eq_true rfl) (ls2 := [some (.ref _), some (.int _), some (.int _), some (.int _), none]) rfl ?_
        exact L_rag h0 w (p := p + 1) (by omega) hpt2 hv hst (by omega) (by omega) hR 0 (Nat.zero_le _) _ (MTq_p hQ) (fM_u hF (by omega)) _
      · refine Y_iconst 38 rfl (pc2 := 74) rfl (v := nI 0) (by decide) ?_
        refine Y_iret 39 rfl rfl rfl ⟨rfl, ?_⟩
        dsimp only
        exact ⟨fM_u hF (by omega), Or.inl ⟨rfl, p + 1, q, by rw [← hR]; exact au_tn w (by omega) h70, uw_same⟩⟩
    · refine Y_iconst 24 rfl (pc2 := 48) rfl (v := nI 0) (by decide) ?_
      refine Y_iret 25 rfl rfl rfl ⟨rfl, ?_⟩
      dsimp only
      exact ⟨hF, Or.inl ⟨rfl, p, q, by rw [← hR]; exact au_x1 w (by omega) h28 (Or.inl h44), hQ.1⟩⟩
  · have hpn := pn_le h28.1
    refine Y_aload_n 17 rfl (pc2 := 32) rfl rfl ?_
    refine Y_cV 18 rfl (pc2 := 35) rfl ok_mo_readBeat lk_mo_102 vi_mo_readBeat ly_mo rfl (by decide) rfl (as := []) (rest := []) rfl rfl (T_mo_readBeat (RM_fM h0 hF) w hQ h28 (by omega)) ?_
    rintro _ m2 ⟨rfl, hQ2, hF2⟩
    change Y _ _ _ _ _ [] _ _
    refine Y_goto 19 rfl (pc2 := 24) (by decide) ?_
    rw [au_beat w h28] at hR
    exact ih (pnB S p) hpn.1 hpn.2 (by omega) m2 _ hQ2 (fM_t hF hF2) (by show q.1 + 1 ≤ _; omega) (by show st ≤ q.1 + 1; omega) (by show q.1 + 1 - st ≤ _; omega) (Or.inl (by show st < q.1 + 1; omega)) hR

set_option maxHeartbeats 400000 in
theorem T_mo_readAgain {G : Nat × (Nat → Int32)} {m : Mm} {S : Mm} (h : RM m S) (w : WF S) {q : Qt} {p : Nat} (hQ : MTq m q p) (hqb : q.1 ≤ 600 * p) (h91 : hre S p = nI 91) : Y G M_mo_readAgain (0, 0) 0 (en_ M_mo_readAgain [.ref (153)]) [] (LAY, m) (qm_ LAY (pR_ m S (au (tpf S) (tpd S - p) p (q, none, false, false)) p)) := by
  change Y _ _ _ _ [some (.ref _), none, none, none, none] _ _ _
  have ht := w.tp.2
  obtain ⟨hpt, hop⟩ := au_op (q := q) w h91
  rw [hop]
  refine Y_aload_n 0 rfl (pc2 := 1) rfl rfl ?_
  refine Y_dup 1 rfl (pc2 := 2) rfl rfl ?_
  refine Y_getI 2 rfl (pc2 := 5) rfl fl_mo_80 ly_mo (by decide) rfl ?_
  refine Y_top (hQ.1) ?_
  refine Y_iconst 3 rfl (pc2 := 6) rfl (v := nI 1) (by decide) ?_
  refine Y_iadd 4 rfl (pc2 := 7) rfl ?_
  refine Y_top (nI_add _ _) ?_
  refine Y_putI 5 rfl (pc2 := 10) rfl fl_mo_80 ly_mo (by decide) ⟨rfl, rfl⟩ ⟨_, _, _, rfl, rfl⟩ rfl ?_
  refine Y_aload_n 6 rfl (pc2 := 11) rfl rfl ?_
  refine Y_getI 7 rfl (pc2 := 14) rfl fl_mo_87 ly_mo (by decide) rfl ?_
  refine Y_top ((uw_ne (by omega)).trans hQ.2.1) ?_
  refine Y_istore_n 8 rfl (pc2 := 15) rfl (Nat.le_of_ble_eq_true rfl) (ls2 := [some (.ref _), some (.int _), none, none, none]) rfl ?_
  refine Y_aload_n 9 rfl (pc2 := 16) rfl rfl ?_
  refine Y_cV 10 rfl (pc2 := 19) rfl ok_mo_isBeatHere lk_mo_98 vi_mo_isBeatHere ly_mo rfl (by decide) rfl (as := []) (rest := []) rfl rfl (T_mo_isBeatHere (RM_s h (by decide) (by decide)) w (p := p + 1) uw_same (by omega)) ?_
  rintro _ _ ⟨rfl, rfl⟩
  change Y _ _ _ _ _ [.int _] _ _
  refine Y_if_neb 11 rfl (pc2 := 22) rfl (tgt := 24) (by decide) (fun h19 => ?_) (fun h19 => ?_)
  · exact L_rab h w (p + 1) (by omega) (by omega) _ q (MTq_p hQ) (fM_u fM_id (by omega)) (by omega) (Nat.le_refl _) (by omega) (Or.inr h19) rfl
  · refine Y_iconst 12 rfl (pc2 := 23) rfl (v := nI 0) (by decide) ?_
    refine Y_iret 13 rfl rfl rfl ⟨rfl, ?_⟩
    dsimp only
    exact ⟨fM_u fM_id (by omega), Or.inl ⟨rfl, p + 1, q, au_x1 w (by omega) h19 (Or.inr rfl), uw_same⟩⟩

def pD_ (m S : Mm) : Option Value → Mm → Prop := fun v m' => fM m m' ∧ ((v = some (.int (nI 0)) ∧ ∃ p, (rT S).1 = some p ∧ m' 153 15 = nI p) ∨ (v = some (.int (nI 1)) ∧ (rT S).1 = none ∧ (rT S).2.1 ≤ 38400 ∧ ∃ p, MTq m' (rT S).2 p))

set_option maxHeartbeats 400000 in
theorem L_rt0 {G : Nat × (Nat → Int32)} {m m1 S : Mm} {p : Nat} {q : Qt} (hF : fM m m1) (hR : (some p, q) = rT S) (hr : m1 153 15 = nI p) : Y G M_mo_readTune (0, 0) 12 [some (.ref 153), some (.int (nI 0))] [] (LAY, m1) (qm_ LAY (pD_ m S)) := by
  refine Y_iload_n 8 rfl (pc2 := 13) rfl rfl ?_
  refine Y_if_eqn 9 rfl (pc2 := 16) rfl (tgt := 73) (by decide) (by decide) (fun _ => ?_) (fun hd => absurd hd (by decide))
  refine Y_iload_n 36 rfl (pc2 := 74) rfl rfl ?_
  refine Y_iret 37 rfl rfl rfl ⟨rfl, ?_⟩
  dsimp only
  exact ⟨hF, Or.inl ⟨rfl, p, by rw [← hR], hr⟩⟩

set_option maxHeartbeats 400000 in
theorem L_rt {G : Nat × (Nat → Int32)} {m : Mm} {S : Mm} (h0 : RM m S) (w : WF S) : ∀ p, p ≤ tpd S → ∀ m1 (q : Qt), MTq m1 q p → fM m m1 → q.1 ≤ 600 * p → au (tpf S) (tpd S - p) p (q, none, false, false) = rT S → Y G M_mo_readTune (0, 0) 12 [some (.ref 153), some (.int (nI 1))] [] (LAY, m1) (qm_ LAY (pD_ m S)) := by
  have ht := w.tp.2
  refine ind_ (fun p hp ih m1 q hQ hF hqb hR => ?_)
  refine Y_iload_n 8 rfl (pc2 := 13) rfl rfl ?_
  refine Y_if_eqn 9 rfl (pc2 := 16) rfl (tgt := 73) (by decide) (by decide) (fun hd => absurd hd (by decide)) (fun _ => ?_)
  refine Y_aload_n 10 rfl (pc2 := 17) rfl rfl ?_
  refine Y_getI 11 rfl (pc2 := 20) rfl fl_mo_87 ly_mo (by decide) rfl ?_
  refine Y_top (hQ.2.1) ?_
  refine Y_if_eqn 12 rfl (pc2 := 23) rfl (tgt := 34) (by decide) (by omega) (fun h20 => ?_) (fun h20 => ?_)
  · have hpq : p < tpd S ∨ q.1 = 0 := by omega
    refine Y_aload_n 18 rfl (pc2 := 35) rfl rfl ?_
    refine Y_cV 19 rfl (pc2 := 38) rfl ok_mo_isBeatHere lk_mo_98 vi_mo_isBeatHere ly_mo rfl (by decide) rfl (as := []) (rest := []) rfl rfl (T_mo_isBeatHere (RM_fM h0 hF) w hQ.1 (by omega)) ?_
    rintro _ _ ⟨rfl, rfl⟩
    change Y _ _ _ _ _ [.int _] _ _
    refine Y_if_eqb 20 rfl (pc2 := 41) rfl (tgt := 48) (by decide) (fun h38 => ?_) (fun h38 => ?_)
    · refine Y_aload_n 24 rfl (pc2 := 49) rfl rfl ?_
      refine Y_cV 25 rfl (pc2 := 52) rfl ok_mo_here lk_mo_83 vi_mo_here ly_mo rfl (by decide) rfl (as := []) (rest := []) rfl rfl (T_mo_here (RM_fM h0 hF) w hQ.1 (by omega)) ?_
      rintro _ _ ⟨rfl, rfl⟩
      change Y _ _ _ _ _ [.int _] _ _
      refine Y_bipush 26 rfl (pc2 := 54) rfl (v := nI 91) (by decide) ?_
      refine Y_icmp_ne 27 rfl (pc2 := 57) rfl (tgt := 68) (by decide) (fun h54 => ?_) (fun h54 => ?_)
      · refine Y_iconst 33 rfl (pc2 := 69) rfl (v := nI 0) (by decide) ?_
        refine Y_istore_n 34 rfl (pc2 := 70) rfl (Nat.le_of_ble_eq_true rfl) (ls2 := [some (.ref _), some (.int _)]) rfl ?_
        refine Y_goto 35 rfl (pc2 := 12) (by decide) ?_
        exact L_rt0 hF ((au_x0 w hp h38 h54 hpq).symm.trans hR) hQ.1
      · have h54 : hre S p = nI 91 := by first | exact h54 | exact Classical.byContradiction h54
        refine Y_aload_n 28 rfl (pc2 := 58) rfl rfl ?_
        refine Y_cV 29 rfl (pc2 := 61) rfl ok_mo_readAgain lk_mo_105 vi_mo_readAgain ly_mo rfl (by decide) rfl (as := []) (rest := []) rfl rfl (T_mo_readAgain (RM_fM h0 hF) w hQ hqb h54) ?_
        rintro _ _ ⟨hf, ⟨rfl, p2, q2, hR2, hr2⟩ | ⟨rfl, p2, q2, hp2, hpl2, hq2, hqb2, hQ2, hR2⟩⟩
        · change Y _ _ _ _ _ [.int _] _ _
          refine Y_if_eqn 30 rfl (pc2 := 64) rfl (tgt := 68) (by decide) (by decide) (fun _ => ?_) (fun hd => absurd hd (by decide))
          refine Y_iconst 33 rfl (pc2 := 69) rfl (v := nI 0) (by decide) ?_
          refine Y_istore_n 34 rfl (pc2 := 70) rfl (Nat.le_of_ble_eq_true rfl) (ls2 := [some (.ref _), some (.int _)]) rfl ?_
          refine Y_goto 35 rfl (pc2 := 12) (by decide) ?_
          exact L_rt0 (fM_t hF hf) (hR2.symm.trans hR) hr2
        · change Y _ _ _ _ _ [.int _] _ _
          refine Y_if_eqn 30 rfl (pc2 := 64) rfl (tgt := 68) (by decide) (by decide) (fun hd => absurd hd (by decide)) (fun _ => ?_)
          refine Y_iconst 31 rfl (pc2 := 65) rfl (v := nI 1) (by decide) ?_
          refine Y_goto 32 rfl (pc2 := 69) (by decide) ?_
          refine Y_istore_n 34 rfl (pc2 := 70) rfl (Nat.le_of_ble_eq_true rfl) (ls2 := [some (.ref _), some (.int _)]) rfl ?_
          refine Y_goto 35 rfl (pc2 := 12) (by decide) ?_
          exact ih p2 hp2 hpl2 _ q2 hQ2 (fM_t hF hf) hqb2 (hR2.trans hR)
    · have hpn := pn_le h38.1
      refine Y_aload_n 21 rfl (pc2 := 42) rfl rfl ?_
      refine Y_cV 22 rfl (pc2 := 45) rfl ok_mo_readBeat lk_mo_102 vi_mo_readBeat ly_mo rfl (by decide) rfl (as := []) (rest := []) rfl rfl (T_mo_readBeat (RM_fM h0 hF) w hQ h38 (by omega)) ?_
      rintro _ m2 ⟨rfl, hQ2, hF2⟩
      change Y _ _ _ _ _ [] _ _
      refine Y_goto 23 rfl (pc2 := 12) (by decide) ?_
      rw [au_beat w h38] at hR
      exact ih (pnB S p) hpn.1 hpn.2 m2 _ hQ2 (fM_t hF hF2) (by show q.1 + 1 ≤ _; omega) hR
  · refine Y_aload_n 13 rfl (pc2 := 24) rfl rfl ?_
    refine Y_getI 14 rfl (pc2 := 27) rfl fl_mo_80 ly_mo (by decide) rfl ?_
    refine Y_top (hQ.1) ?_
    refine Y_aload_n 15 rfl (pc2 := 28) rfl rfl ?_
    refine Y_getI 16 rfl (pc2 := 31) rfl fl_mo_70 ly_mo (by decide) rfl ?_
    refine Y_top ((RM_fM h0 hF).2.2.trans w.tp.1) ?_
    refine Y_icmp_gen 17 rfl (pc2 := 34) rfl (tgt := 73) (by decide) (by omega) (by omega) (fun h31 => ?_) (fun h31 => ?_)
    · refine Y_iload_n 36 rfl (pc2 := 74) rfl rfl ?_
      refine Y_iret 37 rfl rfl rfl ⟨rfl, ?_⟩
      dsimp only
      have hpe : p = tpd S := by omega
      subst hpe
      have hR2 := (au_e0 (S := S) (q := q) (by omega)).symm.trans hR
      exact ⟨hF, Or.inr ⟨rfl, by rw [← hR2], by rw [← hR2]; show q.1 ≤ _; omega, tpd S, by rw [← hR2]; exact hQ⟩⟩
    · have hpq : p < tpd S ∨ q.1 = 0 := by omega
      refine Y_aload_n 18 rfl (pc2 := 35) rfl rfl ?_
      refine Y_cV 19 rfl (pc2 := 38) rfl ok_mo_isBeatHere lk_mo_98 vi_mo_isBeatHere ly_mo rfl (by decide) rfl (as := []) (rest := []) rfl rfl (T_mo_isBeatHere (RM_fM h0 hF) w hQ.1 (by omega)) ?_
      rintro _ _ ⟨rfl, rfl⟩
      change Y _ _ _ _ _ [.int _] _ _
      refine Y_if_eqb 20 rfl (pc2 := 41) rfl (tgt := 48) (by decide) (fun h38 => ?_) (fun h38 => ?_)
      · refine Y_aload_n 24 rfl (pc2 := 49) rfl rfl ?_
        refine Y_cV 25 rfl (pc2 := 52) rfl ok_mo_here lk_mo_83 vi_mo_here ly_mo rfl (by decide) rfl (as := []) (rest := []) rfl rfl (T_mo_here (RM_fM h0 hF) w hQ.1 (by omega)) ?_
        rintro _ _ ⟨rfl, rfl⟩
        change Y _ _ _ _ _ [.int _] _ _
        refine Y_bipush 26 rfl (pc2 := 54) rfl (v := nI 91) (by decide) ?_
        refine Y_icmp_ne 27 rfl (pc2 := 57) rfl (tgt := 68) (by decide) (fun h54 => ?_) (fun h54 => ?_)
        · refine Y_iconst 33 rfl (pc2 := 69) rfl (v := nI 0) (by decide) ?_
          refine Y_istore_n 34 rfl (pc2 := 70) rfl (Nat.le_of_ble_eq_true rfl) (ls2 := [some (.ref _), some (.int _)]) rfl ?_
          refine Y_goto 35 rfl (pc2 := 12) (by decide) ?_
          exact L_rt0 hF ((au_x0 w hp h38 h54 hpq).symm.trans hR) hQ.1
        · have h54 : hre S p = nI 91 := by first | exact h54 | exact Classical.byContradiction h54
          refine Y_aload_n 28 rfl (pc2 := 58) rfl rfl ?_
          refine Y_cV 29 rfl (pc2 := 61) rfl ok_mo_readAgain lk_mo_105 vi_mo_readAgain ly_mo rfl (by decide) rfl (as := []) (rest := []) rfl rfl (T_mo_readAgain (RM_fM h0 hF) w hQ hqb h54) ?_
          rintro _ _ ⟨hf, ⟨rfl, p2, q2, hR2, hr2⟩ | ⟨rfl, p2, q2, hp2, hpl2, hq2, hqb2, hQ2, hR2⟩⟩
          · change Y _ _ _ _ _ [.int _] _ _
            refine Y_if_eqn 30 rfl (pc2 := 64) rfl (tgt := 68) (by decide) (by decide) (fun _ => ?_) (fun hd => absurd hd (by decide))
            refine Y_iconst 33 rfl (pc2 := 69) rfl (v := nI 0) (by decide) ?_
            refine Y_istore_n 34 rfl (pc2 := 70) rfl (Nat.le_of_ble_eq_true rfl) (ls2 := [some (.ref _), some (.int _)]) rfl ?_
            refine Y_goto 35 rfl (pc2 := 12) (by decide) ?_
            exact L_rt0 (fM_t hF hf) (hR2.symm.trans hR) hr2
          · change Y _ _ _ _ _ [.int _] _ _
            refine Y_if_eqn 30 rfl (pc2 := 64) rfl (tgt := 68) (by decide) (by decide) (fun hd => absurd hd (by decide)) (fun _ => ?_)
            refine Y_iconst 31 rfl (pc2 := 65) rfl (v := nI 1) (by decide) ?_
            refine Y_goto 32 rfl (pc2 := 69) (by decide) ?_
            refine Y_istore_n 34 rfl (pc2 := 70) rfl (Nat.le_of_ble_eq_true rfl) (ls2 := [some (.ref _), some (.int _)]) rfl ?_
            refine Y_goto 35 rfl (pc2 := 12) (by decide) ?_
            exact ih p2 hp2 hpl2 _ q2 hQ2 (fM_t hF hf) hqb2 (hR2.trans hR)
      · have hpn := pn_le h38.1
        refine Y_aload_n 21 rfl (pc2 := 42) rfl rfl ?_
        refine Y_cV 22 rfl (pc2 := 45) rfl ok_mo_readBeat lk_mo_102 vi_mo_readBeat ly_mo rfl (by decide) rfl (as := []) (rest := []) rfl rfl (T_mo_readBeat (RM_fM h0 hF) w hQ h38 (by omega)) ?_
        rintro _ m2 ⟨rfl, hQ2, hF2⟩
        change Y _ _ _ _ _ [] _ _
        refine Y_goto 23 rfl (pc2 := 12) (by decide) ?_
        rw [au_beat w h38] at hR
        exact ih (pnB S p) hpn.1 hpn.2 m2 _ hQ2 (fM_t hF hF2) (by show q.1 + 1 ≤ _; omega) hR

set_option maxHeartbeats 400000 in
theorem T_mo_readTune {G : Nat × (Nat → Int32)} {m : Mm} {S : Mm} (h : RM m S) (w : WF S) : Y G M_mo_readTune (0, 0) 0 (en_ M_mo_readTune [.ref (153)]) [] (LAY, m) (qm_ LAY (pD_ m S)) := by
  change Y _ _ _ _ [some (.ref _), none] _ _ _
  refine Y_aload_n 0 rfl (pc2 := 1) rfl rfl ?_
  refine Y_iconst 1 rfl (pc2 := 2) rfl (v := nI 0) (by decide) ?_
  refine Y_putI 2 rfl (pc2 := 5) rfl fl_mo_80 ly_mo (by decide) ⟨rfl, rfl⟩ ⟨_, _, _, rfl, rfl⟩ rfl ?_
  refine Y_aload_n 3 rfl (pc2 := 6) rfl rfl ?_
  refine Y_iconst 4 rfl (pc2 := 7) rfl (v := nI 0) (by decide) ?_
  refine Y_putI 5 rfl (pc2 := 10) rfl fl_mo_87 ly_mo (by decide) ⟨rfl, rfl⟩ ⟨_, _, _, rfl, rfl⟩ rfl ?_
  refine Y_iconst 6 rfl (pc2 := 11) rfl (v := nI 1) (by decide) ?_
  refine Y_istore_n 7 rfl (pc2 := 12) rfl (Nat.le_of_ble_eq_true rfl) (ls2 := [some (.ref _), some (.int _)]) rfl ?_
  refine L_rt h w 0 (Nat.zero_le _) _ q0 ⟨?_, ?_, fun i h1 h2 => absurd h2 (Nat.not_lt_zero i)⟩ (fM_u (fM_u fM_id (by omega)) (by omega)) (Nat.zero_le _) rfl
  · rw [uw_ne (by omega), uw_same]
  · rw [uw_same]; rfl
