/-! the reference: the way through a piece -/
def gk (m : Mm) (p l t : Int32) : Mm := ur_ m 153 (fun k => if k = 19 then p else if k = 20 then l else if k = 21 then t else m 153 k)
set_option maxHeartbeats 400000 in
theorem gk_ne {m : Mm} {p l t : Int32} {a : Nat} (h : ¬ a = 153) : gk m p l t a = m a := by
  unfold gk
  exact ur_ne h
set_option maxHeartbeats 400000 in
theorem gk_p {m : Mm} {p l t : Int32} : gk m p l t 153 19 = p := rfl
set_option maxHeartbeats 400000 in
theorem gk_l {m : Mm} {p l t : Int32} : gk m p l t 153 20 = l := rfl
set_option maxHeartbeats 400000 in
theorem gk_t {m : Mm} {p l t : Int32} : gk m p l t 153 21 = t := rfl
set_option maxHeartbeats 400000 in
theorem gk_o {m : Mm} {p l t : Int32} {k : Nat} (h : ¬ (k = 19 ∨ k = 20 ∨ k = 21)) : gk m p l t 153 k = m 153 k := by
  show (if k = 19 then p else if k = 20 then l else if k = 21 then t else m 153 k) = _
  rw [if_neg (by omega), if_neg (by omega), if_neg (by omega)]
set_option maxHeartbeats 400000 in
theorem gk_id {m : Mm} : m = gk m (m 153 19) (m 153 20) (m 153 21) := by
  funext a k
  by_cases h : a = 153
  · subst h
    show m 153 k = (if k = 19 then m 153 19 else if k = 20 then m 153 20 else if k = 21 then m 153 21 else m 153 k)
    split
    · rename_i e; rw [e]
    · split
      · rename_i e; rw [e]
      · split
        · rename_i e; rw [e]
        · rfl
  · rw [gk_ne h]
set_option maxHeartbeats 400000 in
theorem RM_gk {m S : Mm} {p l t : Int32} (h : RM m S) : RM (gk m p l t) S :=
  ⟨fun a h1 h2 => by rw [gk_ne (by omega)]; exact h.1 a h1 h2, by rw [gk_o (by omega)]; exact h.2.1, by rw [gk_o (by omega)]; exact h.2.2⟩

set_option maxHeartbeats 400000 in
theorem gk_sp {m : Mm} {p l t v : Int32} : uw_ (gk m p l t) 153 19 v = gk m v l t := by
  funext a k
  by_cases h : a = 153
  · subst h
    by_cases hk : k = 19
    · subst hk; simp [uw_, gk, ur_]
    · rw [uw_ne (by omega)]
      simp [gk, ur_, hk]
  · rw [uw_ne (by omega), gk_ne h, gk_ne h]

set_option maxHeartbeats 400000 in
theorem gk_sl {m : Mm} {p l t v : Int32} : uw_ (gk m p l t) 153 20 v = gk m p v t := by
  funext a k
  by_cases h : a = 153
  · subst h
    by_cases hk : k = 20
    · subst hk; simp [uw_, gk, ur_]
    · rw [uw_ne (by omega)]
      simp [gk, ur_, hk]
  · rw [uw_ne (by omega), gk_ne h, gk_ne h]

set_option maxHeartbeats 400000 in
theorem gk_st {m : Mm} {p l t v : Int32} : uw_ (gk m p l t) 153 21 v = gk m p l v := by
  funext a k
  by_cases h : a = 153
  · subst h
    by_cases hk : k = 21
    · subst hk; simp [uw_, gk, ur_]
    · rw [uw_ne (by omega)]
      simp [gk, ur_, hk]
  · rw [uw_ne (by omega), gk_ne h, gk_ne h]

set_option maxHeartbeats 400000 in
theorem wf_le {S : Mm} : ∀ r, wf S r ≤ r
  | 0 => Nat.le_refl 0
  | r + 1 => by
    by_cases h : r + 1 = wf S r + pT S (wp S r)
    · rw [(wk_adv h).2.1]; exact Nat.le_refl _
    · rw [(wk_sta h).2.1]; have := wf_le (S := S) r; omega
def pp (S : Mm) : Nat → Nat
  | 0 => 0
  | j + 1 => wp S j
def pf (S : Mm) : Nat → Nat
  | 0 => 0
  | j + 1 => wf S j
set_option maxHeartbeats 400000 in
theorem go_step {S : Mm} (w : WF S) {i : Nat} (hi : i < tot S) : (i = pf S i + pT S (pp S i) → wp S i = pp S i + 1 ∧ wf S i = i ∧ wl S i = ov S (pp S i + 1) (plv S i)) ∧ (¬ i = pf S i + pT S (pp S i) → wp S i = pp S i ∧ wf S i = pf S i ∧ (i = pf S i → wl S i = ov S (pp S i) (plv S i)) ∧ (¬ i = pf S i → wl S i = plv S i)) := by
  cases i with
  | zero =>
    refine ⟨fun e => ?_, fun _ => ⟨rfl, rfl, fun _ => rfl, fun e => absurd rfl e⟩⟩
    exfalso
    obtain ⟨p, k, a, b, c⟩ := wp_lt w 0 hi
    have h1 := w.t1 0 (by omega)
    have e2 : 0 = 0 + pT S 0 := e
    omega
  | succ j =>
    refine ⟨fun e => ?_, fun e => ?_⟩
    · obtain ⟨a, b, c, d⟩ := wk_adv (S := S) (r := j) e
      exact ⟨a, b, c⟩
    · obtain ⟨a, b, c, d⟩ := wk_sta (S := S) (r := j) e
      refine ⟨a, b, fun z => ?_, fun _ => c⟩
      have := wf_le (S := S) j
      have z2 : j + 1 = wf S j := z
      omega
set_option maxHeartbeats 400000 in
theorem pp_lt {S : Mm} (w : WF S) {i : Nat} (hi : i < tot S) : pp S i < 16 := by
  have hp := w.p.2
  cases i with
  | zero => exact (by decide : 0 < 16)
  | succ j =>
    have := (wl_lt w j (by omega)).2
    show wp S j < 16
    omega
set_option maxHeartbeats 400000 in
theorem nv_of {x : Int32} {n : Nat} (h : oR x n) (hn : n < 2 ^ 31) (h2 : ¬ x < 0) : x = nI (nv x) := by
  rcases h with rfl | ⟨k, hk, rfl⟩
  · exact absurd (by decide) h2
  · rw [nv_nI (by omega)]
def lvH (S : Mm) (r i : Nat) : Nat := if i ≤ r then plv S i else wl S r
def tkH (S : Mm) (r i : Nat) : Nat := if i ≤ r then ptk S i else wt S r
def pg_ (m S : Mm) (r : Nat) : Option Value → Mm → Prop := fun v m' => v = none ∧ m' = gk m (nI (wp S r)) (nI (wl S r)) (nI (wt S r))

set_option maxHeartbeats 400000 in
theorem L_rounds {G : Nat × (Nat → Int32)} {m : Mm} {S : Mm} (h : RM m S) (w : WF S) : ∀ i, i ≤ pn S → Y G M_mo_rounds (0, 0) 4 [some (.ref (153)), some (.int (nI (su (pT S) i))), some (.int (nI i))] [] (LAY, m) (qm_ LAY (pu_ (nI (tot S)) m)) := by
  have hn := w.p.2
  refine ind_ (fun i hi ih => ?_)
  refine Y_iload_n 4 rfl (pc2 := 5) rfl rfl ?_
  refine Y_aload_n 5 rfl (pc2 := 6) rfl rfl ?_
  refine Y_getI 6 rfl (pc2 := 9) rfl fl_mo_146 ly_mo (by decide) rfl ?_
  refine Y_top (h.2.1.trans w.p.1) ?_
  refine Y_icmp_gen 7 rfl (pc2 := 12) rfl (tgt := 27) (by decide) (by omega) (by omega) (fun h9 => ?_) (fun h9 => ?_)
  · refine Y_iload_n 17 rfl (pc2 := 28) rfl rfl ?_
    refine Y_iret 18 rfl rfl rfl ⟨rfl, ?_⟩
    dsimp only
    exact pu_i (by rw [show i = pn S by omega]; rfl)
  · refine Y_iload_n 8 rfl (pc2 := 13) rfl rfl ?_
    refine Y_aload_n 9 rfl (pc2 := 14) rfl rfl ?_
    refine Y_getR 10 rfl (pc2 := 17) rfl fl_mo_32 ly_mo (by decide) rfl rfl (by omega) ?_
    refine Y_iload_n 11 rfl (pc2 := 18) rfl rfl ?_
    refine Y_iald 12 rfl (pc2 := 19) rfl ly_mo_pTimes rfl (by omega) (by decide) ?_
    refine Y_top ((h.e (by decide) (by decide)).trans (w.t _ (by omega)).1) ?_
    refine Y_iadd 13 rfl (pc2 := 20) rfl ?_
    refine Y_top (nI_add _ _) ?_
    refine Y_istore_n 14 rfl (pc2 := 21) rfl (Nat.le_of_ble_eq_true rfl) (ls2 := [some (.ref _), some (.int _), some (.int _)]) rfl ?_
    refine Y_iinc 15 rfl (pc2 := 24) rfl rfl (nI_inc _ 1) (ls2 := [some (.ref _), some (.int _), some (.int _)]) rfl ?_
    refine Y_goto 16 rfl (pc2 := 4) (by decide) ?_
    exact ih (i + 1) (by omega) (by omega)

set_option maxHeartbeats 400000 in
theorem T_mo_rounds {G : Nat × (Nat → Int32)} {m : Mm} {S : Mm} (h : RM m S) (w : WF S) : Y G M_mo_rounds (0, 0) 0 (en_ M_mo_rounds [.ref (153)]) [] (LAY, m) (qm_ LAY (pu_ (nI (tot S)) m)) := by
  change Y _ _ _ _ [some (.ref _), none, none] _ _ _
  refine Y_iconst 0 rfl (pc2 := 1) rfl (v := nI 0) (by decide) ?_
  refine Y_istore_n 1 rfl (pc2 := 2) rfl (Nat.le_of_ble_eq_true rfl) (ls2 := [some (.ref _), some (.int _), none]) rfl ?_
  refine Y_iconst 2 rfl (pc2 := 3) rfl (v := nI 0) (by decide) ?_
  refine Y_istore_n 3 rfl (pc2 := 4) rfl (Nat.le_of_ble_eq_true rfl) (ls2 := [some (.ref _), some (.int _), some (.int _)]) rfl ?_
  exact L_rounds h w 0 (Nat.zero_le _)

set_option maxHeartbeats 400000 in
theorem T_mo_isRound {G : Nat × (Nat → Int32)} {m : Mm} {S : Mm} (h : RM m S) (w : WF S) {x : Int32} : Y G M_mo_isRound (0, 0) 0 (en_ M_mo_isRound [.ref (153), .int (x)]) [] (LAY, m) (qm_ LAY (pu_ (bI (iR x (tot S))) m)) := by
  change Y _ _ _ _ [some (.ref _), some (.int _)] _ _ _
  have h144 := tot_le w
  refine Y_iload_n 0 rfl (pc2 := 1) rfl rfl ?_
  refine Y_iconst 1 rfl (pc2 := 2) rfl (v := nI 0) (by decide) ?_
  refine Y_aload_n 2 rfl (pc2 := 3) rfl rfl ?_
  refine Y_cV 3 rfl (pc2 := 6) rfl ok_mo_rounds lk_mo_152 vi_mo_rounds ly_mo rfl (by decide) rfl (as := []) (rest := [.int _, .int _]) rfl rfl (T_mo_rounds h w) ?_
  rintro _ _ ⟨rfl, rfl⟩
  change Y _ _ _ _ _ [.int _, .int _, .int _] _ _
  refine Y_iconst 4 rfl (pc2 := 7) rfl (v := nI 1) (by decide) ?_
  refine Y_isub 5 rfl (pc2 := 8) rfl ?_
  refine Y_cS 6 rfl (pc2 := 11) rfl ok_mo_isIn lk_mo_62 vs_mo_isIn (as := [.int _, .int _, .int _]) (rest := []) rfl rfl (T_mo_isInm (by omega)) ?_
  rintro _ _ ⟨rfl, rfl⟩
  change Y _ _ _ _ _ [.int _] _ _
  refine Y_iret 7 rfl rfl bI_z ⟨rfl, ?_⟩
  dsimp only
  exact pu_i rfl

set_option maxHeartbeats 400000 in
theorem L_go81 {G : Nat × (Nat → Int32)} {m : Mm} {S : Mm} (h : RM m S) (w : WF S) {r i : Nat} (hr : r < tot S) (hi : i ≤ r) (hn : ∀ j, i < j → j ≤ r + 1 → Y G M_mo_goTo (0, 0) 19 [some (.ref 153), some (.int (nI r)), some (.int (nI (pf S j))), some (.int (nI j))] [] (LAY, gk m (nI (pp S j)) (nI (lvH S r j)) (nI (tkH S r j))) (qm_ LAY (pg_ m S r))) : Y G M_mo_goTo (0, 0) 81 [some (.ref 153), some (.int (nI r)), some (.int (nI (wf S i))), some (.int (nI i))] [] (LAY, gk m (nI (wp S i)) (nI (wl S i)) (nI (wt S i))) (qm_ LAY (pg_ m S r)) := by
  have h144 := tot_le w
  have hp16 := w.p.2
  have hl4 := (wl_lt w i (by omega)).1
  have hwp := (wl_lt w i (by omega)).2
  have hc4 := (w.c (wp S i) (by omega)).2
  refine Y_iload_n 49 rfl (pc2 := 82) rfl rfl ?_
  refine Y_iload_n 50 rfl (pc2 := 83) rfl rfl ?_
  refine Y_icmp_gen 51 rfl (pc2 := 86) rfl (tgt := 143) (by decide) (by omega) (by omega) (fun h83 => ?_) (fun h83 => ?_)
  · refine Y_iinc 84 rfl (pc2 := 146) rfl rfl (nI_inc _ 1) (ls2 := [some (.ref _), some (.int _), some (.int _), some (.int _)]) rfl ?_
    refine Y_goto 85 rfl (pc2 := 19) (by decide) ?_
    first
      | exact (by
          have hx := hn (i + 1) (by omega) (by omega)
          rw [show lvH S r (i + 1) = wl S r from if_neg (by omega), show tkH S r (i + 1) = wt S r from if_neg (by omega)] at hx
          rw [show r = i by omega] at hx ⊢
          exact hx)
      | exact (by
          have hx := hn (i + 1) (by omega) (by omega)
          rw [show lvH S r (i + 1) = sg S i (wl S i) from if_pos (by omega), show tkH S r (i + 1) = wt S i + bt S (pC S (wp S i)) * (32 * 2 ^ wl S i) from if_pos (by omega)] at hx
          refine Y_mem gk_sl hx)
  · refine Y_aload_n 52 rfl (pc2 := 87) rfl rfl ?_
    refine Y_dup 53 rfl (pc2 := 88) rfl rfl ?_
    refine Y_getI 54 rfl (pc2 := 91) rfl fl_mo_161 ly_mo (by decide) rfl ?_
    refine Y_top (gk_t) ?_
    refine Y_aload_n 55 rfl (pc2 := 92) rfl rfl ?_
    refine Y_getR 56 rfl (pc2 := 95) rfl fl_mo_7 ly_mo (by decide) rfl rfl (by omega) ?_
    refine Y_aload_n 57 rfl (pc2 := 96) rfl rfl ?_
    refine Y_getR 58 rfl (pc2 := 99) rfl fl_mo_29 ly_mo (by decide) rfl rfl (by omega) ?_
    refine Y_aload_n 59 rfl (pc2 := 100) rfl rfl ?_
    refine Y_getI 60 rfl (pc2 := 103) rfl fl_mo_155 ly_mo (by decide) rfl ?_
    refine Y_top (gk_p) ?_
    refine Y_iald 61 rfl (pc2 := 104) rfl ly_mo_pCircle rfl (by omega) (by decide) ?_
    refine Y_top (((RM_gk h).e (by decide) (by decide)).trans (w.c _ (by omega)).1) ?_
    refine Y_iald 62 rfl (pc2 := 105) rfl ly_mo_beats rfl (by omega) (by decide) ?_
    refine Y_top (((RM_gk h).e (by decide) (by decide)).trans (w.b _ (by omega)).1) ?_
    refine Y_bipush 63 rfl (pc2 := 107) rfl (v := nI 32) (by decide) ?_
    refine Y_aload_n 64 rfl (pc2 := 108) rfl rfl ?_
    refine Y_getI 65 rfl (pc2 := 111) rfl fl_mo_158 ly_mo (by decide) rfl ?_
    refine Y_top (gk_l) ?_
    refine Y_ishl 66 rfl (pc2 := 112) rfl ?_
    refine Y_top (sh_32 hl4) ?_
    refine Y_imul 67 rfl (pc2 := 113) rfl ?_
    refine Y_top (nI_mul _ _) ?_
    refine Y_iadd 68 rfl (pc2 := 114) rfl ?_
    refine Y_top (nI_add _ _) ?_
    refine Y_putI 69 rfl (pc2 := 117) rfl fl_mo_161 ly_mo (by decide) ⟨rfl, rfl⟩ ⟨_, _, _, rfl, rfl⟩ rfl ?_
    refine Y_mem gk_st ?_
    refine Y_aload_n 70 rfl (pc2 := 118) rfl rfl ?_
    refine Y_aload_n 71 rfl (pc2 := 119) rfl rfl ?_
    refine Y_getR 72 rfl (pc2 := 122) rfl fl_mo_38 ly_mo (by decide) rfl rfl (by omega) ?_
    refine Y_iload_n 73 rfl (pc2 := 123) rfl rfl ?_
    refine Y_iald 74 rfl (pc2 := 124) rfl ly_mo_signals rfl (by omega) (by decide) ?_
    refine Y_top ((RM_gk h).e (by decide) (by decide)) ?_
    refine Y_if_ge 75 rfl (pc2 := 127) rfl (tgt := 134) (by decide) (fun h124 => ?_) (fun h124 => ?_)
    · refine Y_aload_n 79 rfl (pc2 := 135) rfl rfl ?_
      refine Y_getR 80 rfl (pc2 := 138) rfl fl_mo_38 ly_mo (by decide) rfl rfl (by omega) ?_
      refine Y_iload_n 81 rfl (pc2 := 139) rfl rfl ?_
      refine Y_iald 82 rfl (pc2 := 140) rfl ly_mo_signals rfl (by omega) (by decide) ?_
      refine Y_top ((RM_gk h).e (by decide) (by decide)) ?_
      refine Y_top (show S 163 i = nI (sg S i (wl S i)) by unfold sg; rw [if_neg (Int32.not_lt.mpr h124)]; exact nv_of (w.r i (by omega)) (by decide) (Int32.not_lt.mpr h124)) ?_
      refine Y_putI 83 rfl (pc2 := 143) rfl fl_mo_158 ly_mo (by decide) ⟨rfl, rfl⟩ ⟨_, _, _, rfl, rfl⟩ rfl ?_
      refine Y_iinc 84 rfl (pc2 := 146) rfl rfl (nI_inc _ 1) (ls2 := [some (.ref _), some (.int _), some (.int _), some (.int _)]) rfl ?_
      refine Y_goto 85 rfl (pc2 := 19) (by decide) ?_
      first
        | exact (by
            have hx := hn (i + 1) (by omega) (by omega)
            rw [show lvH S r (i + 1) = wl S r from if_neg (by omega), show tkH S r (i + 1) = wt S r from if_neg (by omega)] at hx
            rw [show r = i by omega] at hx ⊢
            exact hx)
        | exact (by
            have hx := hn (i + 1) (by omega) (by omega)
            rw [show lvH S r (i + 1) = sg S i (wl S i) from if_pos (by omega), show tkH S r (i + 1) = wt S i + bt S (pC S (wp S i)) * (32 * 2 ^ wl S i) from if_pos (by omega)] at hx
            refine Y_mem gk_sl hx)
    · refine Y_aload_n 76 rfl (pc2 := 128) rfl rfl ?_
      refine Y_getI 77 rfl (pc2 := 131) rfl fl_mo_158 ly_mo (by decide) rfl ?_
      refine Y_top (gk_l) ?_
      refine Y_goto 78 rfl (pc2 := 140) (by decide) ?_
      refine Y_top (show nI (wl S i) = nI (sg S i (wl S i)) by unfold sg; rw [if_pos (Int32.not_le.mp h124)]) ?_
      refine Y_putI 83 rfl (pc2 := 143) rfl fl_mo_158 ly_mo (by decide) ⟨rfl, rfl⟩ ⟨_, _, _, rfl, rfl⟩ rfl ?_
      refine Y_iinc 84 rfl (pc2 := 146) rfl rfl (nI_inc _ 1) (ls2 := [some (.ref _), some (.int _), some (.int _), some (.int _)]) rfl ?_
      refine Y_goto 85 rfl (pc2 := 19) (by decide) ?_
      first
        | exact (by
            have hx := hn (i + 1) (by omega) (by omega)
            rw [show lvH S r (i + 1) = wl S r from if_neg (by omega), show tkH S r (i + 1) = wt S r from if_neg (by omega)] at hx
            rw [show r = i by omega] at hx ⊢
            exact hx)
        | exact (by
            have hx := hn (i + 1) (by omega) (by omega)
            rw [show lvH S r (i + 1) = sg S i (wl S i) from if_pos (by omega), show tkH S r (i + 1) = wt S i + bt S (pC S (wp S i)) * (32 * 2 ^ wl S i) from if_pos (by omega)] at hx
            refine Y_mem gk_sl hx)

set_option maxHeartbeats 400000 in
theorem L_go51 {G : Nat × (Nat → Int32)} {m : Mm} {S : Mm} (h : RM m S) (w : WF S) {r i : Nat} (hr : r < tot S) (hi : i ≤ r) (hov : i = wf S i → wl S i = ov S (wp S i) (plv S i)) (hpl : ¬ i = wf S i → wl S i = plv S i) (hn : ∀ j, i < j → j ≤ r + 1 → Y G M_mo_goTo (0, 0) 19 [some (.ref 153), some (.int (nI r)), some (.int (nI (pf S j))), some (.int (nI j))] [] (LAY, gk m (nI (pp S j)) (nI (lvH S r j)) (nI (tkH S r j))) (qm_ LAY (pg_ m S r))) : Y G M_mo_goTo (0, 0) 51 [some (.ref 153), some (.int (nI r)), some (.int (nI (wf S i))), some (.int (nI i))] [] (LAY, gk m (nI (wp S i)) (nI (plv S i)) (nI (wt S i))) (qm_ LAY (pg_ m S r)) := by
  have h144 := tot_le w
  have hp16 := w.p.2
  have hwp := (wl_lt w i (by omega)).2
  have hwf := wf_le (S := S) i
  refine Y_iload_n 33 rfl (pc2 := 52) rfl rfl ?_
  refine Y_iload_n 34 rfl (pc2 := 53) rfl rfl ?_
  refine Y_icmp_nen 35 rfl (pc2 := 56) rfl (tgt := 81) (by decide) (by omega) (by omega) (fun h53 => ?_) (fun h53 => ?_)
  · have e : wl S i = plv S i := by first | exact hpl h53 | (rw [hov (by omega)]; unfold ov; rw [if_pos h65])
    rw [← e]
    exact L_go81 h w hr hi hn
  · refine Y_aload_n 36 rfl (pc2 := 57) rfl rfl ?_
    refine Y_getR 37 rfl (pc2 := 60) rfl fl_mo_35 ly_mo (by decide) rfl rfl (by omega) ?_
    refine Y_aload_n 38 rfl (pc2 := 61) rfl rfl ?_
    refine Y_getI 39 rfl (pc2 := 64) rfl fl_mo_155 ly_mo (by decide) rfl ?_
    refine Y_top (gk_p) ?_
    refine Y_iald 40 rfl (pc2 := 65) rfl ly_mo_pLevel rfl (by omega) (by decide) ?_
    refine Y_top ((RM_gk h).e (by decide) (by decide)) ?_
    refine Y_if_lt 41 rfl (pc2 := 68) rfl (tgt := 81) (by decide) (fun h65 => ?_) (fun h65 => ?_)
    · have e : wl S i = plv S i := by first | exact hpl h53 | (rw [hov (by omega)]; unfold ov; rw [if_pos h65])
      rw [← e]
      exact L_go81 h w hr hi hn
    · refine Y_aload_n 42 rfl (pc2 := 69) rfl rfl ?_
      refine Y_aload_n 43 rfl (pc2 := 70) rfl rfl ?_
      refine Y_getR 44 rfl (pc2 := 73) rfl fl_mo_35 ly_mo (by decide) rfl rfl (by omega) ?_
      refine Y_aload_n 45 rfl (pc2 := 74) rfl rfl ?_
      refine Y_getI 46 rfl (pc2 := 77) rfl fl_mo_155 ly_mo (by decide) rfl ?_
      refine Y_top (gk_p) ?_
      refine Y_iald 47 rfl (pc2 := 78) rfl ly_mo_pLevel rfl (by omega) (by decide) ?_
      refine Y_top ((RM_gk h).e (by decide) (by decide)) ?_
      refine Y_top (show S 162 (wp S i) = nI (wl S i) by rw [hov (by omega)]; unfold ov; rw [if_neg h65]; exact nv_of (w.l _ (by omega)) (by decide) h65) ?_
      refine Y_putI 48 rfl (pc2 := 81) rfl fl_mo_158 ly_mo (by decide) ⟨rfl, rfl⟩ ⟨_, _, _, rfl, rfl⟩ rfl ?_
      refine Y_mem gk_sl ?_
      exact L_go81 h w hr hi hn

set_option maxHeartbeats 400000 in
theorem pf_le {S : Mm} {i : Nat} : pf S i ≤ i := by
  cases i with
  | zero => exact Nat.le_refl 0
  | succ j => exact Nat.le_trans (wf_le j) (Nat.le_succ j)

set_option maxHeartbeats 400000 in
theorem L_goTo {G : Nat × (Nat → Int32)} {m : Mm} {S : Mm} (h : RM m S) (w : WF S) {r : Nat} (hr : r < tot S) : ∀ i, i ≤ r + 1 → Y G M_mo_goTo (0, 0) 19 [some (.ref 153), some (.int (nI r)), some (.int (nI (pf S i))), some (.int (nI i))] [] (LAY, gk m (nI (pp S i)) (nI (lvH S r i)) (nI (tkH S r i))) (qm_ LAY (pg_ m S r)) := by
  have h144 := tot_le w
  have hp16 := w.p.2
  refine ind_ (fun i hi ih => ?_)
  refine Y_iload_n 13 rfl (pc2 := 20) rfl rfl ?_
  refine Y_iload_n 14 rfl (pc2 := 21) rfl rfl ?_
  refine Y_icmp_gtn 15 rfl (pc2 := 24) rfl (tgt := 149) (by decide) (by omega) (by omega) (fun h21 => ?_) (fun h21 => ?_)
  · refine Y_vret 86 rfl rfl ⟨rfl, ?_⟩
    dsimp only
    refine ⟨rfl, ?_⟩
    rw [show i = r + 1 by omega]
    show gk m (nI (wp S r)) (nI (lvH S r (r + 1))) (nI (tkH S r (r + 1))) = _
    rw [show lvH S r (r + 1) = wl S r from if_neg (by omega), show tkH S r (r + 1) = wt S r from if_neg (by omega)]
  · have hir : i ≤ r := by omega
    have hg := go_step w (i := i) (by omega)
    have hp := pp_lt w (i := i) (by omega)
    rw [show lvH S r i = plv S i from if_pos hir, show tkH S r i = ptk S i from if_pos hir]
    have hpt := (w.t (pp S i) hp).2
    have hpf : pf S i ≤ i := pf_le
    refine Y_iload_n 16 rfl (pc2 := 25) rfl rfl ?_
    refine Y_iload_n 17 rfl (pc2 := 26) rfl rfl ?_
    refine Y_aload_n 18 rfl (pc2 := 27) rfl rfl ?_
    refine Y_getR 19 rfl (pc2 := 30) rfl fl_mo_32 ly_mo (by decide) rfl rfl (by omega) ?_
    refine Y_aload_n 20 rfl (pc2 := 31) rfl rfl ?_
    refine Y_getI 21 rfl (pc2 := 34) rfl fl_mo_155 ly_mo (by decide) rfl ?_
    refine Y_top (gk_p) ?_
    refine Y_iald 22 rfl (pc2 := 35) rfl ly_mo_pTimes rfl (by omega) (by decide) ?_
    refine Y_top (((RM_gk h).e (by decide) (by decide)).trans (w.t _ (by omega)).1) ?_
    refine Y_iadd 23 rfl (pc2 := 36) rfl ?_
    refine Y_top (nI_add _ _) ?_
    refine Y_icmp_nen 24 rfl (pc2 := 39) rfl (tgt := 51) (by decide) (by omega) (by omega) (fun h36 => ?_) (fun h36 => ?_)
    · first
        | exact (by
            obtain ⟨e1, e2, e3, e4⟩ := hg.2 h36
            have z := L_go51 h w hr hir (fun q => by rw [e1]; exact e3 (by rw [← e2]; exact q)) (fun q => e4 (by rw [← e2]; exact q)) ih
            rw [e1, e2, wt_is] at z
            exact z)
        | exact (by
            obtain ⟨e1, e2, e3⟩ := hg.1 (by omega)
            have z := L_go51 h w hr hir (fun q => by rw [e1]; exact e3) (fun q => absurd e2.symm q) ih
            rw [e1, e2, wt_is] at z
            exact Y_mem gk_sp z)
    · refine Y_iload_n 25 rfl (pc2 := 40) rfl rfl ?_
      refine Y_istore_n 26 rfl (pc2 := 41) rfl (Nat.le_of_ble_eq_true rfl) (ls2 := [some (.ref _), some (.int _), some (.int _), some (.int _)]) rfl ?_
      refine Y_aload_n 27 rfl (pc2 := 42) rfl rfl ?_
      refine Y_dup 28 rfl (pc2 := 43) rfl rfl ?_
      refine Y_getI 29 rfl (pc2 := 46) rfl fl_mo_155 ly_mo (by decide) rfl ?_
      refine Y_top (gk_p) ?_
      refine Y_iconst 30 rfl (pc2 := 47) rfl (v := nI 1) (by decide) ?_
      refine Y_iadd 31 rfl (pc2 := 48) rfl ?_
      refine Y_top (nI_add _ _) ?_
      refine Y_putI 32 rfl (pc2 := 51) rfl fl_mo_155 ly_mo (by decide) ⟨rfl, rfl⟩ ⟨_, _, _, rfl, rfl⟩ rfl ?_
      first
        | exact (by
            obtain ⟨e1, e2, e3, e4⟩ := hg.2 h36
            have z := L_go51 h w hr hir (fun q => by rw [e1]; exact e3 (by rw [← e2]; exact q)) (fun q => e4 (by rw [← e2]; exact q)) ih
            rw [e1, e2, wt_is] at z
            exact z)
        | exact (by
            obtain ⟨e1, e2, e3⟩ := hg.1 (by omega)
            have z := L_go51 h w hr hir (fun q => by rw [e1]; exact e3) (fun q => absurd e2.symm q) ih
            rw [e1, e2, wt_is] at z
            exact Y_mem gk_sp z)

set_option maxHeartbeats 400000 in
theorem T_mo_goTo {G : Nat × (Nat → Int32)} {m : Mm} {S : Mm} (h : RM m S) (w : WF S) {r : Nat} (hr : r < tot S) : Y G M_mo_goTo (0, 0) 0 (en_ M_mo_goTo [.ref 153, .int (nI r)]) [] (LAY, m) (qm_ LAY (pg_ m S r)) := by
  change Y _ _ _ _ [some (.ref _), some (.int _), none, none] _ _ _
  refine Y_mem gk_id ?_
  refine Y_aload_n 0 rfl (pc2 := 1) rfl rfl ?_
  refine Y_iconst 1 rfl (pc2 := 2) rfl (v := nI 0) (by decide) ?_
  refine Y_putI 2 rfl (pc2 := 5) rfl fl_mo_155 ly_mo (by decide) ⟨rfl, rfl⟩ ⟨_, _, _, rfl, rfl⟩ rfl ?_
  refine Y_mem gk_sp ?_
  refine Y_aload_n 3 rfl (pc2 := 6) rfl rfl ?_
  refine Y_iconst 4 rfl (pc2 := 7) rfl (v := nI 0) (by decide) ?_
  refine Y_putI 5 rfl (pc2 := 10) rfl fl_mo_158 ly_mo (by decide) ⟨rfl, rfl⟩ ⟨_, _, _, rfl, rfl⟩ rfl ?_
  refine Y_mem gk_sl ?_
  refine Y_aload_n 6 rfl (pc2 := 11) rfl rfl ?_
  refine Y_iconst 7 rfl (pc2 := 12) rfl (v := nI 0) (by decide) ?_
  refine Y_putI 8 rfl (pc2 := 15) rfl fl_mo_161 ly_mo (by decide) ⟨rfl, rfl⟩ ⟨_, _, _, rfl, rfl⟩ rfl ?_
  refine Y_mem gk_st ?_
  refine Y_iconst 9 rfl (pc2 := 16) rfl (v := nI 0) (by decide) ?_
  refine Y_istore_n 10 rfl (pc2 := 17) rfl (Nat.le_of_ble_eq_true rfl) (ls2 := [some (.ref _), some (.int _), some (.int _), none]) rfl ?_
  refine Y_iconst 11 rfl (pc2 := 18) rfl (v := nI 0) (by decide) ?_
  refine Y_istore_n 12 rfl (pc2 := 19) rfl (Nat.le_of_ble_eq_true rfl) (ls2 := [some (.ref _), some (.int _), some (.int _), some (.int _)]) rfl ?_
  have z := L_goTo h w hr (G := G) 0 (Nat.zero_le _)
  rw [show lvH S r 0 = 0 from if_pos (Nat.zero_le _), show tkH S r 0 = 0 from if_pos (Nat.zero_le _)] at z
  exact z

set_option maxHeartbeats 400000 in
theorem pm_g {m S : Mm} {x y p l t : Int32} (h : RM m S) (e : y = x) : pm_ x m S (some (.int y)) (gk m p l t) := ⟨by rw [e], RM_gk h, fun q hq => gk_ne (by omega)⟩

set_option maxHeartbeats 400000 in
theorem T_mo_round {G : Nat × (Nat → Int32)} {m : Mm} {S : Mm} (h : RM m S) (w : WF S) {x y : Int32} : Y G M_mo_round (0, 0) 0 (en_ M_mo_round [.ref (153), .int (x), .int (y)]) [] (LAY, m) (qm_ LAY (pm_ (sp_round S x y) m S)) := by
  change Y _ _ _ _ [some (.ref _), some (.int _), some (.int _)] _ _ _
  have h144 := tot_le w
  refine Y_aload_n 0 rfl (pc2 := 1) rfl rfl ?_
  refine Y_iload_n 1 rfl (pc2 := 2) rfl rfl ?_
  refine Y_cV 2 rfl (pc2 := 5) rfl ok_mo_isRound lk_mo_164 vi_mo_isRound ly_mo rfl (by decide) rfl (as := [.int _]) (rest := []) rfl rfl (T_mo_isRound h w) ?_
  rintro _ _ ⟨rfl, rfl⟩
  change Y _ _ _ _ _ [.int _] _ _
  refine Y_if_eqb 3 rfl (pc2 := 8) rfl (tgt := 17) (by decide) (fun h5 => ?_) (fun h5 => ?_)
  · refine Y_ldc 9 rfl (pc2 := 19) rfl kc_mo_79 ?_
    refine Y_iret 10 rfl rfl rfl ⟨rfl, ?_⟩
    dsimp only
    first | exact pm_0 h (by unfold sp_round; rw [cI_f (fun e => h5 e.1)]; rfl) | exact pm_0 h (by unfold sp_round; rw [cI_f (fun e => h14 e.2)]; rfl)
  · refine Y_iload_n 4 rfl (pc2 := 9) rfl rfl ?_
    refine Y_iconst 5 rfl (pc2 := 10) rfl (v := nI 0) (by decide) ?_
    refine Y_iconst 6 rfl (pc2 := 11) rfl (v := nI 3) (by decide) ?_
    refine Y_cS 7 rfl (pc2 := 14) rfl ok_mo_isIn lk_mo_62 vs_mo_isIn (as := [.int _, .int _, .int _]) (rest := []) rfl rfl (T_mo_isIn0 (by omega)) ?_
    rintro _ _ ⟨rfl, rfl⟩
    change Y _ _ _ _ _ [.int _] _ _
    refine Y_if_neb 8 rfl (pc2 := 17) rfl (tgt := 20) (by decide) (fun h14 => ?_) (fun h14 => ?_)
    · obtain ⟨r, hr, rfl⟩ := h5
      obtain ⟨k, hk, rfl⟩ := h14
      refine Y_aload_n 11 rfl (pc2 := 21) rfl rfl ?_
      refine Y_iload_n 12 rfl (pc2 := 22) rfl rfl ?_
      refine Y_cV 13 rfl (pc2 := 25) rfl ok_mo_goTo lk_mo_167 vi_mo_goTo ly_mo rfl (by decide) rfl (as := [.int _]) (rest := []) rfl rfl (T_mo_goTo h w hr) ?_
      rintro _ _ ⟨rfl, rfl⟩
      change Y _ _ _ _ _ [] _ _
      have hL := wl_lt w r hr
      have hp16 := w.p.2
      have hC : cA_ S r < 4 := (w.c (wp S r) (by omega)).2
      have hC2 : pC S (wp S r) < 4 := hC
      have hB := (w.b (cA_ S r) hC).2
      have hB2 : 2 ≤ bt S (pC S (wp S r)) ∧ bt S (pC S (wp S r)) ≤ 32 := hB
      have hZ := sz_16 hL.1
      refine Y_iload_n 14 rfl (pc2 := 26) rfl rfl ?_
      refine Y_if_nen 15 rfl (pc2 := 29) rfl (tgt := 41) (by decide) (by omega) (fun h26 => ?_) (fun h26 => ?_)
      · refine Y_iload_n 22 rfl (pc2 := 42) rfl rfl ?_
        refine Y_iconst 23 rfl (pc2 := 43) rfl (v := nI 1) (by decide) ?_
        refine Y_icmp_nen 24 rfl (pc2 := 46) rfl (tgt := 53) (by decide) (by omega) (by omega) (fun h43 => ?_) (fun h43 => ?_)
        · refine Y_iload_n 28 rfl (pc2 := 54) rfl rfl ?_
          refine Y_iconst 29 rfl (pc2 := 55) rfl (v := nI 2) (by decide) ?_
          refine Y_icmp_nen 30 rfl (pc2 := 58) rfl (tgt := 65) (by decide) (by omega) (by omega) (fun h55 => ?_) (fun h55 => ?_)
          · refine Y_aload_n 34 rfl (pc2 := 66) rfl rfl ?_
            refine Y_getI 35 rfl (pc2 := 69) rfl fl_mo_161 ly_mo (by decide) rfl ?_
            refine Y_top (gk_t) ?_
            refine Y_iret 36 rfl rfl rfl ⟨rfl, ?_⟩
            dsimp only
            have k0 : ∀ j, j < 4 → (nI k = nI j ↔ k = j) := fun j hj => nI_eq (by omega) (by omega)
            first
              | exact pm_g h (by unfold sp_round; rw [cI_t ⟨⟨r, hr, rfl⟩, ⟨k, hk, rfl⟩⟩, nv_nI (by omega)]; rw [if_pos ((k0 0 (by decide)).mpr h26)])
              | exact pm_g h (by unfold sp_round; rw [cI_t ⟨⟨r, hr, rfl⟩, ⟨k, hk, rfl⟩⟩, nv_nI (by omega)]; rw [if_neg (mt (k0 0 (by decide)).mp h26), if_pos ((k0 1 (by decide)).mpr (by omega))])
              | exact pm_g h (by unfold sp_round; rw [cI_t ⟨⟨r, hr, rfl⟩, ⟨k, hk, rfl⟩⟩, nv_nI (by omega)]; rw [if_neg (mt (k0 0 (by decide)).mp h26), if_neg (mt (k0 1 (by decide)).mp (by omega)), if_pos ((k0 2 (by decide)).mpr (by omega))])
              | exact pm_g h (by unfold sp_round; rw [cI_t ⟨⟨r, hr, rfl⟩, ⟨k, hk, rfl⟩⟩, nv_nI (by omega)]; rw [if_neg (mt (k0 0 (by decide)).mp h26), if_neg (mt (k0 1 (by decide)).mp (by omega)), if_neg (mt (k0 2 (by decide)).mp (by omega))])
          · refine Y_aload_n 31 rfl (pc2 := 59) rfl rfl ?_
            refine Y_getI 32 rfl (pc2 := 62) rfl fl_mo_155 ly_mo (by decide) rfl ?_
            refine Y_top (gk_p) ?_
            refine Y_goto 33 rfl (pc2 := 69) (by decide) ?_
            refine Y_iret 36 rfl rfl rfl ⟨rfl, ?_⟩
            dsimp only
            have k0 : ∀ j, j < 4 → (nI k = nI j ↔ k = j) := fun j hj => nI_eq (by omega) (by omega)
            first
              | exact pm_g h (by unfold sp_round; rw [cI_t ⟨⟨r, hr, rfl⟩, ⟨k, hk, rfl⟩⟩, nv_nI (by omega)]; rw [if_pos ((k0 0 (by decide)).mpr h26)])
              | exact pm_g h (by unfold sp_round; rw [cI_t ⟨⟨r, hr, rfl⟩, ⟨k, hk, rfl⟩⟩, nv_nI (by omega)]; rw [if_neg (mt (k0 0 (by decide)).mp h26), if_pos ((k0 1 (by decide)).mpr (by omega))])
              | exact pm_g h (by unfold sp_round; rw [cI_t ⟨⟨r, hr, rfl⟩, ⟨k, hk, rfl⟩⟩, nv_nI (by omega)]; rw [if_neg (mt (k0 0 (by decide)).mp h26), if_neg (mt (k0 1 (by decide)).mp (by omega)), if_pos ((k0 2 (by decide)).mpr (by omega))])
              | exact pm_g h (by unfold sp_round; rw [cI_t ⟨⟨r, hr, rfl⟩, ⟨k, hk, rfl⟩⟩, nv_nI (by omega)]; rw [if_neg (mt (k0 0 (by decide)).mp h26), if_neg (mt (k0 1 (by decide)).mp (by omega)), if_neg (mt (k0 2 (by decide)).mp (by omega))])
        · refine Y_aload_n 25 rfl (pc2 := 47) rfl rfl ?_
          refine Y_getI 26 rfl (pc2 := 50) rfl fl_mo_158 ly_mo (by decide) rfl ?_
          refine Y_top (gk_l) ?_
          refine Y_goto 27 rfl (pc2 := 69) (by decide) ?_
          refine Y_iret 36 rfl rfl rfl ⟨rfl, ?_⟩
          dsimp only
          have k0 : ∀ j, j < 4 → (nI k = nI j ↔ k = j) := fun j hj => nI_eq (by omega) (by omega)
          first
            | exact pm_g h (by unfold sp_round; rw [cI_t ⟨⟨r, hr, rfl⟩, ⟨k, hk, rfl⟩⟩, nv_nI (by omega)]; rw [if_pos ((k0 0 (by decide)).mpr h26)])
            | exact pm_g h (by unfold sp_round; rw [cI_t ⟨⟨r, hr, rfl⟩, ⟨k, hk, rfl⟩⟩, nv_nI (by omega)]; rw [if_neg (mt (k0 0 (by decide)).mp h26), if_pos ((k0 1 (by decide)).mpr (by omega))])
            | exact pm_g h (by unfold sp_round; rw [cI_t ⟨⟨r, hr, rfl⟩, ⟨k, hk, rfl⟩⟩, nv_nI (by omega)]; rw [if_neg (mt (k0 0 (by decide)).mp h26), if_neg (mt (k0 1 (by decide)).mp (by omega)), if_pos ((k0 2 (by decide)).mpr (by omega))])
            | exact pm_g h (by unfold sp_round; rw [cI_t ⟨⟨r, hr, rfl⟩, ⟨k, hk, rfl⟩⟩, nv_nI (by omega)]; rw [if_neg (mt (k0 0 (by decide)).mp h26), if_neg (mt (k0 1 (by decide)).mp (by omega)), if_neg (mt (k0 2 (by decide)).mp (by omega))])
      · refine Y_aload_n 16 rfl (pc2 := 30) rfl rfl ?_
        refine Y_getR 17 rfl (pc2 := 33) rfl fl_mo_29 ly_mo (by decide) rfl rfl (by omega) ?_
        refine Y_aload_n 18 rfl (pc2 := 34) rfl rfl ?_
        refine Y_getI 19 rfl (pc2 := 37) rfl fl_mo_155 ly_mo (by decide) rfl ?_
        refine Y_top (gk_p) ?_
        refine Y_iald 20 rfl (pc2 := 38) rfl ly_mo_pCircle rfl (by omega) (by decide) ?_
        refine Y_top (((RM_gk h).e (by decide) (by decide)).trans (w.c _ (by omega)).1) ?_
        refine Y_goto 21 rfl (pc2 := 69) (by decide) ?_
        refine Y_iret 36 rfl rfl rfl ⟨rfl, ?_⟩
        dsimp only
        have k0 : ∀ j, j < 4 → (nI k = nI j ↔ k = j) := fun j hj => nI_eq (by omega) (by omega)
        first
          | exact pm_g h (by unfold sp_round; rw [cI_t ⟨⟨r, hr, rfl⟩, ⟨k, hk, rfl⟩⟩, nv_nI (by omega)]; rw [if_pos ((k0 0 (by decide)).mpr h26)])
          | exact pm_g h (by unfold sp_round; rw [cI_t ⟨⟨r, hr, rfl⟩, ⟨k, hk, rfl⟩⟩, nv_nI (by omega)]; rw [if_neg (mt (k0 0 (by decide)).mp h26), if_pos ((k0 1 (by decide)).mpr (by omega))])
          | exact pm_g h (by unfold sp_round; rw [cI_t ⟨⟨r, hr, rfl⟩, ⟨k, hk, rfl⟩⟩, nv_nI (by omega)]; rw [if_neg (mt (k0 0 (by decide)).mp h26), if_neg (mt (k0 1 (by decide)).mp (by omega)), if_pos ((k0 2 (by decide)).mpr (by omega))])
          | exact pm_g h (by unfold sp_round; rw [cI_t ⟨⟨r, hr, rfl⟩, ⟨k, hk, rfl⟩⟩, nv_nI (by omega)]; rw [if_neg (mt (k0 0 (by decide)).mp h26), if_neg (mt (k0 1 (by decide)).mp (by omega)), if_neg (mt (k0 2 (by decide)).mp (by omega))])
    · refine Y_ldc 9 rfl (pc2 := 19) rfl kc_mo_79 ?_
      refine Y_iret 10 rfl rfl rfl ⟨rfl, ?_⟩
      dsimp only
      first | exact pm_0 h (by unfold sp_round; rw [cI_f (fun e => h5 e.1)]; rfl) | exact pm_0 h (by unfold sp_round; rw [cI_f (fun e => h14 e.2)]; rfl)

set_option maxHeartbeats 400000 in
theorem T_mo_ticks {G : Nat × (Nat → Int32)} {m : Mm} {S : Mm} (h : RM m S) (w : WF S) : Y G M_mo_ticks (0, 0) 0 (en_ M_mo_ticks [.ref (153)]) [] (LAY, m) (qm_ LAY (pm_ (sp_ticks S) m S)) := by
  change Y _ _ _ _ [some (.ref _), none] _ _ _
  have h144 := tot_le w
  refine Y_aload_n 0 rfl (pc2 := 1) rfl rfl ?_
  refine Y_cV 1 rfl (pc2 := 4) rfl ok_mo_rounds lk_mo_152 vi_mo_rounds ly_mo rfl (by decide) rfl (as := []) (rest := []) rfl rfl (T_mo_rounds h w) ?_
  rintro _ _ ⟨rfl, rfl⟩
  change Y _ _ _ _ _ [.int _] _ _
  refine Y_istore_n 2 rfl (pc2 := 5) rfl (Nat.le_of_ble_eq_true rfl) (ls2 := [some (.ref _), some (.int _)]) rfl ?_
  refine Y_iload_n 3 rfl (pc2 := 6) rfl rfl ?_
  refine Y_if_nen 4 rfl (pc2 := 9) rfl (tgt := 11) (by decide) (by omega) (fun h6 => ?_) (fun h6 => ?_)
  · have hr : tot S - 1 < tot S := by omega
    refine Y_aload_n 7 rfl (pc2 := 12) rfl rfl ?_
    refine Y_iload_n 8 rfl (pc2 := 13) rfl rfl ?_
    refine Y_iconst 9 rfl (pc2 := 14) rfl (v := nI 1) (by decide) ?_
    refine Y_isub 10 rfl (pc2 := 15) rfl ?_
    refine Y_top (nI_sub (by omega)) ?_
    refine Y_cV 11 rfl (pc2 := 18) rfl ok_mo_goTo lk_mo_167 vi_mo_goTo ly_mo rfl (by decide) rfl (as := [.int _]) (rest := []) rfl rfl (T_mo_goTo h w (by omega)) ?_
    rintro _ _ ⟨rfl, rfl⟩
    change Y _ _ _ _ _ [] _ _
    have hL := wl_lt w (tot S - 1) hr
    have hp16 := w.p.2
    have hC : cA_ S (tot S - 1) < 4 := (w.c (wp S (tot S - 1)) (by omega)).2
    have hC2 : pC S (wp S (tot S - 1)) < 4 := hC
    have hB := (w.b (cA_ S (tot S - 1)) hC).2
    have hB2 : 2 ≤ bt S (pC S (wp S (tot S - 1))) ∧ bt S (pC S (wp S (tot S - 1))) ≤ 32 := hB
    have hZ := sz_16 hL.1
    refine Y_aload_n 12 rfl (pc2 := 19) rfl rfl ?_
    refine Y_getI 13 rfl (pc2 := 22) rfl fl_mo_161 ly_mo (by decide) rfl ?_
    refine Y_top (gk_t) ?_
    refine Y_aload_n 14 rfl (pc2 := 23) rfl rfl ?_
    refine Y_getR 15 rfl (pc2 := 26) rfl fl_mo_7 ly_mo (by decide) rfl rfl (by omega) ?_
    refine Y_aload_n 16 rfl (pc2 := 27) rfl rfl ?_
    refine Y_getR 17 rfl (pc2 := 30) rfl fl_mo_29 ly_mo (by decide) rfl rfl (by omega) ?_
    refine Y_aload_n 18 rfl (pc2 := 31) rfl rfl ?_
    refine Y_getI 19 rfl (pc2 := 34) rfl fl_mo_155 ly_mo (by decide) rfl ?_
    refine Y_top (gk_p) ?_
    refine Y_iald 20 rfl (pc2 := 35) rfl ly_mo_pCircle rfl (by omega) (by decide) ?_
    refine Y_top (((RM_gk h).e (by decide) (by decide)).trans (w.c _ (by omega)).1) ?_
    refine Y_iald 21 rfl (pc2 := 36) rfl ly_mo_beats rfl (by omega) (by decide) ?_
    refine Y_top (((RM_gk h).e (by decide) (by decide)).trans (w.b _ (by omega)).1) ?_
    refine Y_bipush 22 rfl (pc2 := 38) rfl (v := nI 32) (by decide) ?_
    refine Y_aload_n 23 rfl (pc2 := 39) rfl rfl ?_
    refine Y_getI 24 rfl (pc2 := 42) rfl fl_mo_158 ly_mo (by decide) rfl ?_
    refine Y_top (gk_l) ?_
    refine Y_ishl 25 rfl (pc2 := 43) rfl ?_
    refine Y_top (sh_32 hL.1) ?_
    refine Y_imul 26 rfl (pc2 := 44) rfl ?_
    refine Y_top (nI_mul _ _) ?_
    refine Y_iadd 27 rfl (pc2 := 45) rfl ?_
    refine Y_top (nI_add _ _) ?_
    refine Y_iret 28 rfl rfl rfl ⟨rfl, ?_⟩
    dsimp only
    exact pm_g h (by unfold sp_ticks; rw [show tot S = (tot S - 1) + 1 by omega]; rfl)
  · refine Y_iconst 5 rfl (pc2 := 10) rfl (v := nI 0) (by decide) ?_
    refine Y_iret 6 rfl rfl rfl ⟨rfl, ?_⟩
    dsimp only
    exact pm_0 h (by unfold sp_ticks; rw [h6]; rfl)
