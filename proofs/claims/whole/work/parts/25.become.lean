/-! the class: a circle becomes what was read -/
set_option maxHeartbeats 400000 in
theorem ln_congr {R R2 : Nat → Int32} : ∀ k, (∀ i, i < k → R i = R2 i) → ln R k = ln R2 k
  | 0, _ => rfl
  | k + 1, h => by
    show (if R k < 0 then ln R k else R k) = (if R2 k < 0 then ln R2 k else R2 k)
    rw [h k (by omega), ln_congr k (fun i hi => h i (by omega))]
set_option maxHeartbeats 400000 in
theorem toneR_congr {R R2 : Nat → Int32} {n b : Nat} (h : ∀ i, i < n → R i = R2 i) (hb : b < n) : toneR R n b = toneR R2 n b := by
  unfold toneR
  rw [ln_congr (b + 1) (fun i hi => h i (by omega)), ln_congr n h]
def lnO (R : Nat → Int32) (k : Nat) : Int32 := if ln R k < 0 then nI 0 else ln R k
def tvR (R : Nat → Int32) (n b : Nat) : Int32 := if ln R b < 0 then lnO R n else ln R b
set_option maxHeartbeats 400000 in
theorem tv_s {R : Nat → Int32} {n b : Nat} : toneR R n b = tvR R n (b + 1) := rfl
set_option maxHeartbeats 400000 in
theorem tv_n {R : Nat → Int32} {n b : Nat} (h : R b < 0) : tvR R n (b + 1) = tvR R n b := by
  unfold tvR
  rw [show ln R (b + 1) = ln R b from if_pos h]
set_option maxHeartbeats 400000 in
theorem tv_y {R : Nat → Int32} {n b : Nat} (h : ¬ R b < 0) : tvR R n (b + 1) = R b := by
  unfold tvR
  rw [show ln R (b + 1) = R b from if_neg h, if_neg h]

set_option maxHeartbeats 400000 in
theorem L_lastNote {G : Nat × (Nat → Int32)} {m : Mm}  {c n : Nat} {R : Nat → Int32} (hc : c < 4) (hn : n ≤ 32) (hB : m (21 + 5 * c) 4 = nI n) (hR : ∀ b, b < n → m (22 + 5 * c) b = oC (R b)) (hO : ∀ b, b < n → oR (R b) 7) : ∀ k, k ≤ n → Y G M_ci_lastNote (0, 0) 7 [some (.ref (21 + 5 * c)), some (.int (nI k - nI 1))] [] (LAY, m) (qm_ LAY (pu_ (lnO R k) m)) := by
  intro k
  induction k with
  | zero =>
    intro _
    refine Y_iload_n 5 rfl (pc2 := 8) rfl rfl ?_
    refine Y_if_lt 6 rfl (pc2 := 11) rfl (tgt := 35) (by decide) (fun h8 => ?_) (fun h8 => ?_)
    · refine Y_iconst 20 rfl (pc2 := 36) rfl (v := nI 0) (by decide) ?_
      refine Y_iret 21 rfl rfl rfl ⟨rfl, ?_⟩
      exact pu_i rfl
    · exact absurd (by decide) h8
  | succ k ih =>
    intro hk
    have hon := oC_none (by decide) (hO k (by omega))
    rw [show nI (k + 1) - nI 1 = nI k from nI_pred k]
    refine Y_iload_n 5 rfl (pc2 := 8) rfl rfl ?_
    refine Y_if_ltn 6 rfl (pc2 := 11) rfl (tgt := 35) (by decide) (by omega) ?_
    refine Y_aload_n 7 rfl (pc2 := 12) rfl rfl ?_
    refine Y_getR 8 rfl (pc2 := 15) rfl fl_ci_9 (ly_ci (by omega)) (by decide) rfl rfl (by omega) ?_
    refine Y_iload_n 9 rfl (pc2 := 16) rfl rfl ?_
    refine Y_iald 10 rfl (pc2 := 17) rfl (ly_ciN (by omega)) rfl (by omega) (by decide) ?_
    refine Y_top (hR k (by omega)) ?_
    refine Y_ldc 11 rfl (pc2 := 19) rfl kc_ci_28 ?_
    refine Y_icmp_eq 12 rfl (pc2 := 22) rfl (tgt := 29) (by decide) (fun h19 => ?_) (fun h19 => ?_)
    · refine Y_iinc 18 rfl (pc2 := 32) rfl rfl rfl (ls2 := [some (.ref _), some (.int _)]) rfl ?_
      refine Y_goto 19 rfl (pc2 := 7) (by decide) ?_
      refine Y_ls (by rw [nI_m1]) (Y_Q (congrArg (fun q => pu_ q m) ?_) (ih (by omega)))
      unfold lnO
      rw [show ln R (k + 1) = ln R k from if_pos (hon.mp h19)]
    · refine Y_aload_n 13 rfl (pc2 := 23) rfl rfl ?_
      refine Y_getR 14 rfl (pc2 := 26) rfl fl_ci_9 (ly_ci (by omega)) (by decide) rfl rfl (by omega) ?_
      refine Y_iload_n 15 rfl (pc2 := 27) rfl rfl ?_
      refine Y_iald 16 rfl (pc2 := 28) rfl (ly_ciN (by omega)) rfl (by omega) (by decide) ?_
      refine Y_top (hR k (by omega)) ?_
      refine Y_iret 17 rfl rfl rfl ⟨rfl, ?_⟩
      exact pu_i (by have e := mt hon.mpr h19; unfold lnO; rw [show ln R (k + 1) = R k from if_neg e, if_neg e, oC_id e])

set_option maxHeartbeats 400000 in
theorem T_ci_lastNote {G : Nat × (Nat → Int32)} {m : Mm}  {c n : Nat} {R : Nat → Int32} (hc : c < 4) (hn : n ≤ 32) (hB : m (21 + 5 * c) 4 = nI n) (hR : ∀ b, b < n → m (22 + 5 * c) b = oC (R b)) (hO : ∀ b, b < n → oR (R b) 7) : Y G M_ci_lastNote (0, 0) 0 (en_ M_ci_lastNote [.ref (21 + 5 * c)]) [] (LAY, m) (qm_ LAY (pu_ (lnO R n) m)) := by
  change Y _ _ _ _ [some (.ref _), none] _ _ _
  refine Y_aload_n 0 rfl (pc2 := 1) rfl rfl ?_
  refine Y_getI 1 rfl (pc2 := 4) rfl fl_ci_24 (ly_ci (by omega)) (by decide) rfl ?_
  refine Y_top (hB) ?_
  refine Y_iconst 2 rfl (pc2 := 5) rfl (v := nI 1) (by decide) ?_
  refine Y_isub 3 rfl (pc2 := 6) rfl ?_
  refine Y_istore_n 4 rfl (pc2 := 7) rfl (Nat.le_of_ble_eq_true rfl) (ls2 := [some (.ref _), some (.int _)]) rfl ?_
  exact L_lastNote hc hn hB hR hO n (Nat.le_refl n)

set_option maxHeartbeats 400000 in
theorem L_setTones {G : Nat × (Nat → Int32)} {m : Mm}  {c n : Nat} {R : Nat → Int32} (hc : c < 4) (hn : n ≤ 32) (hB : m (21 + 5 * c) 4 = nI n) (hR : ∀ b, b < n → m (22 + 5 * c) b = oC (R b)) (hO : ∀ b, b < n → oR (R b) 7) : ∀ b, b ≤ n → Y G M_ci_setTones (0, 0) 7 [some (.ref (21 + 5 * c)), some (.int (tvR R n b)), some (.int (nI b))] [] (LAY, ur_ m (24 + 5 * c) (flf (m (24 + 5 * c)) b (toneR R n))) (qm_ LAY (pf_ (ur_ m (24 + 5 * c) (flf (m (24 + 5 * c)) n (toneR R n))))) := by
  refine ind_ (fun b hb ih => ?_)
  refine Y_iload_n 5 rfl (pc2 := 8) rfl rfl ?_
  refine Y_aload_n 6 rfl (pc2 := 9) rfl rfl ?_
  refine Y_getI 7 rfl (pc2 := 12) rfl fl_ci_24 (ly_ci (by omega)) (by decide) rfl ?_
  refine Y_top ((congrFun (ur_ne (by omega)) 4).trans hB) ?_
  refine Y_icmp_gen 8 rfl (pc2 := 15) rfl (tgt := 46) (by decide) (by omega) (by omega) (fun h12 => ?_) (fun h12 => ?_)
  · refine Y_vret 27 rfl rfl ⟨rfl, ?_⟩
    exact ⟨rfl, by rw [show b = n by omega]⟩
  · have hon := oC_none (by decide) (hO b (by omega))
    refine Y_aload_n 9 rfl (pc2 := 16) rfl rfl ?_
    refine Y_getR 10 rfl (pc2 := 19) rfl fl_ci_9 (ly_ci (by omega)) (by decide) rfl rfl (by omega) ?_
    refine Y_iload_n 11 rfl (pc2 := 20) rfl rfl ?_
    refine Y_iald 12 rfl (pc2 := 21) rfl (ly_ciN (by omega)) rfl (by omega) (by decide) ?_
    refine Y_top ((congrFun (ur_ne (by omega)) b).trans (hR b (by omega))) ?_
    refine Y_ldc 13 rfl (pc2 := 23) rfl kc_ci_28 ?_
    refine Y_icmp_eq 14 rfl (pc2 := 26) rfl (tgt := 33) (by decide) (fun h23 => ?_) (fun h23 => ?_)
    · refine Y_aload_n 20 rfl (pc2 := 34) rfl rfl ?_
      refine Y_getR 21 rfl (pc2 := 37) rfl fl_ci_18 (ly_ci (by omega)) (by decide) rfl rfl (by omega) ?_
      refine Y_iload_n 22 rfl (pc2 := 38) rfl rfl ?_
      refine Y_iload_n 23 rfl (pc2 := 39) rfl rfl ?_
      refine Y_iast 24 rfl (pc2 := 40) rfl (ly_ciT (by omega)) rfl (by omega) (by decide) rfl ?_
      refine Y_iinc 25 rfl (pc2 := 43) rfl rfl (nI_inc _ 1) (ls2 := [some (.ref _), some (.int _), some (.int _)]) rfl ?_
      refine Y_goto 26 rfl (pc2 := 7) (by decide) ?_
      first
        | exact (by
            have e2 := mt hon.mpr h23
            have e : toneR R n b = oC (R b) := by rw [tv_s, tv_y e2, oC_id e2]
            have hi := ih (b + 1) (by omega) (by omega)
            rw [← flf_s, ← tv_s, e] at hi
            exact hi)
        | exact (by
            have e : toneR R n b = tvR R n b := by rw [tv_s, tv_n (hon.mp h23)]
            have hi := ih (b + 1) (by omega) (by omega)
            rw [← flf_s, ← tv_s, e] at hi
            exact hi)
    · refine Y_aload_n 15 rfl (pc2 := 27) rfl rfl ?_
      refine Y_getR 16 rfl (pc2 := 30) rfl fl_ci_9 (ly_ci (by omega)) (by decide) rfl rfl (by omega) ?_
      refine Y_iload_n 17 rfl (pc2 := 31) rfl rfl ?_
      refine Y_iald 18 rfl (pc2 := 32) rfl (ly_ciN (by omega)) rfl (by omega) (by decide) ?_
      refine Y_top ((congrFun (ur_ne (by omega)) b).trans (hR b (by omega))) ?_
      refine Y_istore_n 19 rfl (pc2 := 33) rfl (Nat.le_of_ble_eq_true rfl) (ls2 := [some (.ref _), some (.int _), some (.int _)]) rfl ?_
      refine Y_aload_n 20 rfl (pc2 := 34) rfl rfl ?_
      refine Y_getR 21 rfl (pc2 := 37) rfl fl_ci_18 (ly_ci (by omega)) (by decide) rfl rfl (by omega) ?_
      refine Y_iload_n 22 rfl (pc2 := 38) rfl rfl ?_
      refine Y_iload_n 23 rfl (pc2 := 39) rfl rfl ?_
      refine Y_iast 24 rfl (pc2 := 40) rfl (ly_ciT (by omega)) rfl (by omega) (by decide) rfl ?_
      refine Y_iinc 25 rfl (pc2 := 43) rfl rfl (nI_inc _ 1) (ls2 := [some (.ref _), some (.int _), some (.int _)]) rfl ?_
      refine Y_goto 26 rfl (pc2 := 7) (by decide) ?_
      first
        | exact (by
            have e2 := mt hon.mpr h23
            have e : toneR R n b = oC (R b) := by rw [tv_s, tv_y e2, oC_id e2]
            have hi := ih (b + 1) (by omega) (by omega)
            rw [← flf_s, ← tv_s, e] at hi
            exact hi)
        | exact (by
            have e : toneR R n b = tvR R n b := by rw [tv_s, tv_n (hon.mp h23)]
            have hi := ih (b + 1) (by omega) (by omega)
            rw [← flf_s, ← tv_s, e] at hi
            exact hi)

set_option maxHeartbeats 400000 in
theorem T_ci_setTones {G : Nat × (Nat → Int32)} {m : Mm}  {c n : Nat} {R : Nat → Int32} (hc : c < 4) (hn : n ≤ 32) (hB : m (21 + 5 * c) 4 = nI n) (hR : ∀ b, b < n → m (22 + 5 * c) b = oC (R b)) (hO : ∀ b, b < n → oR (R b) 7) : Y G M_ci_setTones (0, 0) 0 (en_ M_ci_setTones [.ref (21 + 5 * c)]) [] (LAY, m) (qm_ LAY (pf_ (ur_ m (24 + 5 * c) (flf (m (24 + 5 * c)) n (toneR R n))))) := by
  change Y _ _ _ _ [some (.ref _), none, none] _ _ _
  refine Y_aload_n 0 rfl (pc2 := 1) rfl rfl ?_
  refine Y_cV 1 rfl (pc2 := 4) rfl ok_ci_lastNote lk_ci_58 vi_ci_lastNote (ly_ci (by omega)) rfl (by decide) rfl (as := []) (rest := []) rfl rfl (T_ci_lastNote hc hn hB hR hO) ?_
  rintro _ _ ⟨rfl, rfl⟩
  change Y _ _ _ _ _ [.int _] _ _
  refine Y_istore_n 2 rfl (pc2 := 5) rfl (Nat.le_of_ble_eq_true rfl) (ls2 := [some (.ref _), some (.int _), none]) rfl ?_
  refine Y_iconst 3 rfl (pc2 := 6) rfl (v := nI 0) (by decide) ?_
  refine Y_istore_n 4 rfl (pc2 := 7) rfl (Nat.le_of_ble_eq_true rfl) (ls2 := [some (.ref _), some (.int _), some (.int _)]) rfl ?_
  exact Y_mem flf_0 (L_setTones hc hn hB hR hO 0 (Nat.zero_le _))

set_option maxHeartbeats 400000 in
theorem T_beatB {G : Nat × (Nat → Int32)} {m : Mm} {c n b : Nat} (hc : c < 4) (hn : n ≤ 32) (hb : b < 32) (hB : m (21 + 5 * c) 4 = nI n) : Y G M_ci_beatBehind (0, 0) 0 (en_ M_ci_beatBehind [.ref (21 + 5 * c), .int (nI b)]) [] (LAY, m) (qm_ LAY (pu_ (nI (nxt n b)) m)) := by
  change Y _ _ _ _ [some (.ref _), some (.int _)] _ _ _
  refine Y_iload_n 0 rfl (pc2 := 1) rfl rfl ?_
  refine Y_iconst 1 rfl (pc2 := 2) rfl (v := nI 1) (by decide) ?_
  refine Y_iadd 2 rfl (pc2 := 3) rfl ?_
  refine Y_top (nI_add _ _) ?_
  refine Y_aload_n 3 rfl (pc2 := 4) rfl rfl ?_
  refine Y_getI 4 rfl (pc2 := 7) rfl fl_ci_24 (ly_ci (by omega)) (by decide) rfl ?_
  refine Y_top (hB) ?_
  refine Y_icmp_gen 5 rfl (pc2 := 10) rfl (tgt := 16) (by decide) (by omega) (by omega) (fun h7 => ?_) (fun h7 => ?_)
  · refine Y_iconst 10 rfl (pc2 := 17) rfl (v := nI 0) (by decide) ?_
    refine Y_iret 11 rfl rfl rfl ⟨rfl, ?_⟩
    exact pu_i (by unfold nxt; first | rw [if_neg (by omega)] | rw [if_pos (by omega)])
  · refine Y_iload_n 6 rfl (pc2 := 11) rfl rfl ?_
    refine Y_iconst 7 rfl (pc2 := 12) rfl (v := nI 1) (by decide) ?_
    refine Y_iadd 8 rfl (pc2 := 13) rfl ?_
    refine Y_top (nI_add _ _) ?_
    refine Y_goto 9 rfl (pc2 := 17) (by decide) ?_
    refine Y_iret 11 rfl rfl rfl ⟨rfl, ?_⟩
    exact pu_i (by unfold nxt; first | rw [if_neg (by omega)] | rw [if_pos (by omega)])

set_option maxHeartbeats 400000 in
theorem L_setTurns {G : Nat × (Nat → Int32)} {m : Mm}  {c n : Nat} {t : Nat → Int32} (hc : c < 4) (hn : n ≤ 32) (h1 : 1 ≤ n) (hB : m (21 + 5 * c) 4 = nI n) (hT : ∀ b, b < n → m (24 + 5 * c) b = t b) : ∀ b, b ≤ n → ∀ (u : Option Value), Y G M_ci_setTurns (0, 0) 2 [some (.ref (21 + 5 * c)), some (.int (nI b)), u] [] (LAY, ur_ m (25 + 5 * c) (flf (m (25 + 5 * c)) b (fun b => nI (turnR (t b) (t (nxt n b)))))) (qm_ LAY (pf_ (ur_ m (25 + 5 * c) (flf (m (25 + 5 * c)) n (fun b => nI (turnR (t b) (t (nxt n b)))))))) := by
  refine ind_ (fun b hb ih u => ?_)
  refine Y_iload_n 2 rfl (pc2 := 3) rfl rfl ?_
  refine Y_aload_n 3 rfl (pc2 := 4) rfl rfl ?_
  refine Y_getI 4 rfl (pc2 := 7) rfl fl_ci_24 (ly_ci (by omega)) (by decide) rfl ?_
  refine Y_top ((congrFun (ur_ne (by omega)) 4).trans hB) ?_
  refine Y_icmp_gen 5 rfl (pc2 := 10) rfl (tgt := 62) (by decide) (by omega) (by omega) (fun h7 => ?_) (fun h7 => ?_)
  · refine Y_vret 36 rfl rfl ⟨rfl, ?_⟩
    exact ⟨rfl, by rw [show b = n by omega]⟩
  · have hx : nxt n b < n := nxt_lt (by omega)
    refine Y_aload_n 6 rfl (pc2 := 11) rfl rfl ?_
    refine Y_getR 7 rfl (pc2 := 14) rfl fl_ci_18 (ly_ci (by omega)) (by decide) rfl rfl (by omega) ?_
    refine Y_aload_n 8 rfl (pc2 := 15) rfl rfl ?_
    refine Y_iload_n 9 rfl (pc2 := 16) rfl rfl ?_
    refine Y_cV 10 rfl (pc2 := 19) rfl ok_ci_beatBehind lk_ci_62 vi_ci_beatBehind (ly_ci (by omega)) rfl (by decide) rfl (as := [.int _]) (rest := [.ref _]) rfl rfl (T_beatB hc hn (by omega) ((congrFun (ur_ne (by omega)) 4).trans hB)) ?_
    rintro _ _ ⟨rfl, rfl⟩
    change Y _ _ _ _ _ [.int _, .ref _] _ _
    refine Y_iald 11 rfl (pc2 := 20) rfl (ly_ciT (by omega)) rfl (by omega) (by decide) ?_
    refine Y_top ((congrFun (ur_ne (by omega)) _).trans (hT _ (nxt_lt (by omega)))) ?_
    refine Y_istore_n 12 rfl (pc2 := 21) rfl (Nat.le_of_ble_eq_true rfl) (ls2 := [some (.ref _), some (.int _), some (.int _)]) rfl ?_
    refine Y_aload_n 13 rfl (pc2 := 22) rfl rfl ?_
    refine Y_getR 14 rfl (pc2 := 25) rfl fl_ci_21 (ly_ci (by omega)) (by decide) rfl rfl (by omega) ?_
    refine Y_iload_n 15 rfl (pc2 := 26) rfl rfl ?_
    refine Y_iload_n 16 rfl (pc2 := 27) rfl rfl ?_
    refine Y_aload_n 17 rfl (pc2 := 28) rfl rfl ?_
    refine Y_getR 18 rfl (pc2 := 31) rfl fl_ci_18 (ly_ci (by omega)) (by decide) rfl rfl (by omega) ?_
    refine Y_iload_n 19 rfl (pc2 := 32) rfl rfl ?_
    refine Y_iald 20 rfl (pc2 := 33) rfl (ly_ciT (by omega)) rfl (by omega) (by decide) ?_
    refine Y_top ((congrFun (ur_ne (by omega)) b).trans (hT b (by omega))) ?_
    refine Y_icmp_ne 21 rfl (pc2 := 36) rfl (tgt := 40) (by decide) (fun h33 => ?_) (fun h33 => ?_)
    · refine Y_iload_n 24 rfl (pc2 := 41) rfl rfl ?_
      refine Y_aload_n 25 rfl (pc2 := 42) rfl rfl ?_
      refine Y_getR 26 rfl (pc2 := 45) rfl fl_ci_18 (ly_ci (by omega)) (by decide) rfl rfl (by omega) ?_
      refine Y_iload_n 27 rfl (pc2 := 46) rfl rfl ?_
      refine Y_iald 28 rfl (pc2 := 47) rfl (ly_ciT (by omega)) rfl (by omega) (by decide) ?_
      refine Y_top ((congrFun (ur_ne (by omega)) b).trans (hT b (by omega))) ?_
      refine Y_icmp_le 29 rfl (pc2 := 50) rfl (tgt := 54) (by decide) (fun h47 => ?_) (fun h47 => ?_)
      · refine Y_iconst 32 rfl (pc2 := 55) rfl (v := nI 2) (by decide) ?_
        refine Y_iast 33 rfl (pc2 := 56) rfl (ly_ciU (by omega)) rfl (by omega) (by decide) rfl ?_
        refine Y_iinc 34 rfl (pc2 := 59) rfl rfl (nI_inc _ 1) (ls2 := [some (.ref _), some (.int _), some (.int _)]) rfl ?_
        refine Y_goto 35 rfl (pc2 := 2) (by decide) ?_
        have hi := ih (b + 1) (by omega) (by omega) (some (.int (t (nxt n b))))
        rw [← flf_s] at hi
        first
          | exact (by
              have e : turnR (t b) (t (nxt n b)) = 0 := if_pos (by first | exact h33 | exact Classical.byContradiction h33)
              simp only [e] at hi
              exact hi)
          | exact (by
              have e : turnR (t b) (t (nxt n b)) = 2 := (if_neg h33).trans (if_neg (Int32.not_lt.mpr h47))
              simp only [e] at hi
              exact hi)
          | exact (by
              have e : turnR (t b) (t (nxt n b)) = 1 := (if_neg h33).trans (if_pos (Int32.not_le.mp h47))
              simp only [e] at hi
              exact hi)
      · refine Y_iconst 30 rfl (pc2 := 51) rfl (v := nI 1) (by decide) ?_
        refine Y_goto 31 rfl (pc2 := 55) (by decide) ?_
        refine Y_iast 33 rfl (pc2 := 56) rfl (ly_ciU (by omega)) rfl (by omega) (by decide) rfl ?_
        refine Y_iinc 34 rfl (pc2 := 59) rfl rfl (nI_inc _ 1) (ls2 := [some (.ref _), some (.int _), some (.int _)]) rfl ?_
        refine Y_goto 35 rfl (pc2 := 2) (by decide) ?_
        have hi := ih (b + 1) (by omega) (by omega) (some (.int (t (nxt n b))))
        rw [← flf_s] at hi
        first
          | exact (by
              have e : turnR (t b) (t (nxt n b)) = 0 := if_pos (by first | exact h33 | exact Classical.byContradiction h33)
              simp only [e] at hi
              exact hi)
          | exact (by
              have e : turnR (t b) (t (nxt n b)) = 2 := (if_neg h33).trans (if_neg (Int32.not_lt.mpr h47))
              simp only [e] at hi
              exact hi)
          | exact (by
              have e : turnR (t b) (t (nxt n b)) = 1 := (if_neg h33).trans (if_pos (Int32.not_le.mp h47))
              simp only [e] at hi
              exact hi)
    · refine Y_iconst 22 rfl (pc2 := 37) rfl (v := nI 0) (by decide) ?_
      refine Y_goto 23 rfl (pc2 := 55) (by decide) ?_
      refine Y_iast 33 rfl (pc2 := 56) rfl (ly_ciU (by omega)) rfl (by omega) (by decide) rfl ?_
      refine Y_iinc 34 rfl (pc2 := 59) rfl rfl (nI_inc _ 1) (ls2 := [some (.ref _), some (.int _), some (.int _)]) rfl ?_
      refine Y_goto 35 rfl (pc2 := 2) (by decide) ?_
      have hi := ih (b + 1) (by omega) (by omega) (some (.int (t (nxt n b))))
      rw [← flf_s] at hi
      first
        | exact (by
            have e : turnR (t b) (t (nxt n b)) = 0 := if_pos (by first | exact h33 | exact Classical.byContradiction h33)
            simp only [e] at hi
            exact hi)
        | exact (by
            have e : turnR (t b) (t (nxt n b)) = 2 := (if_neg h33).trans (if_neg (Int32.not_lt.mpr h47))
            simp only [e] at hi
            exact hi)
        | exact (by
            have e : turnR (t b) (t (nxt n b)) = 1 := (if_neg h33).trans (if_pos (Int32.not_le.mp h47))
            simp only [e] at hi
            exact hi)

set_option maxHeartbeats 400000 in
theorem T_ci_setTurns {G : Nat × (Nat → Int32)} {m : Mm}  {c n : Nat} {t : Nat → Int32} (hc : c < 4) (hn : n ≤ 32) (h1 : 1 ≤ n) (hB : m (21 + 5 * c) 4 = nI n) (hT : ∀ b, b < n → m (24 + 5 * c) b = t b) : Y G M_ci_setTurns (0, 0) 0 (en_ M_ci_setTurns [.ref (21 + 5 * c)]) [] (LAY, m) (qm_ LAY (pf_ (ur_ m (25 + 5 * c) (flf (m (25 + 5 * c)) n (fun b => nI (turnR (t b) (t (nxt n b)))))))) := by
  change Y _ _ _ _ [some (.ref _), none, none] _ _ _
  refine Y_iconst 0 rfl (pc2 := 1) rfl (v := nI 0) (by decide) ?_
  refine Y_istore_n 1 rfl (pc2 := 2) rfl (Nat.le_of_ble_eq_true rfl) (ls2 := [some (.ref _), some (.int _), none]) rfl ?_
  exact Y_mem flf_0 (L_setTurns hc hn h1 hB hT 0 (Nat.zero_le _) _)

/-- what a circle's cells are after it became q -/
def bec (m m' : Mm) (c : Nat) (q : Qt) : Prop :=
  m' (21 + 5 * c) 4 = nI q.1 ∧ (∀ b, b < 32 → m' (22 + 5 * c) b = if b < q.1 then oC (q.2.1 b) else m (22 + 5 * c) b) ∧ (∀ b, b < 32 → m' (23 + 5 * c) b = if b < q.1 then oC (q.2.2 b) else m (23 + 5 * c) b) ∧
  (∀ b, b < q.1 → m' (24 + 5 * c) b = toneR q.2.1 q.1 b) ∧ (∀ b, b < q.1 → m' (25 + 5 * c) b = nI (turnR (toneR q.2.1 q.1 b) (toneR q.2.1 q.1 (nxt q.1 b)))) ∧ ∀ a, ¬ (21 + 5 * c ≤ a ∧ a ≤ 25 + 5 * c) → m' a = m a
def pB_ (m : Mm) (c : Nat) (q : Qt) : Option Value → Mm → Prop := fun v m' => v = none ∧ bec m m' c q
def qok (q : Qt) : Prop := ∀ i, oR (q.2.1 i) 7 ∧ oR (q.2.2 i) 4

set_option maxHeartbeats 400000 in
theorem T_ci_become {G : Nat × (Nat → Int32)} {m : Mm} {c : Nat} {q : Qt} (hc : c < 4) (h : RQ m q) (hn : q.1 ≤ 32) (h1 : 1 ≤ q.1) (hk : qok q) : Y G M_ci_become (0, 0) 0 (en_ M_ci_become [.ref (21 + 5 * c), .ref (3)]) [] (LAY, m) (qm_ LAY (pB_ m c q)) := by
  change Y _ _ _ _ [some (.ref _), some (.ref _)] _ _ _
  refine Y_aload_n 0 rfl (pc2 := 1) rfl rfl ?_
  refine Y_aload_n 1 rfl (pc2 := 2) rfl rfl ?_
  refine Y_getI 2 rfl (pc2 := 5) rfl fl_ci_35 ly_re (by decide) rfl ?_
  refine Y_top (h.1) ?_
  refine Y_bipush 3 rfl (pc2 := 7) rfl (v := nI 32) (by decide) ?_
  refine Y_min 4 rfl (pc2 := 10) rfl lk_ci_38 jd_min_s jd_mi jd_min_c (by decide) (Nat.le_of_ble_eq_true rfl) ?_
  refine Y_top (show (if nI 32 < nI q.1 then nI 32 else nI q.1) = nI q.1 from if_neg (by intro e; have := (nI_ltI (by decide) (by omega)).mp e; omega)) ?_
  refine Y_putI 5 rfl (pc2 := 13) rfl fl_ci_24 (ly_ci (by omega)) (by decide) ⟨rfl, rfl⟩ ⟨_, _, _, rfl, rfl⟩ rfl ?_
  refine Y_aload_n 6 rfl (pc2 := 14) rfl rfl ?_
  refine Y_getR 7 rfl (pc2 := 17) rfl fl_ci_44 ly_re (by decide) rfl rfl (by omega) ?_
  refine Y_iconst 8 rfl (pc2 := 18) rfl (v := nI 0) (by decide) ?_
  refine Y_aload_n 9 rfl (pc2 := 19) rfl rfl ?_
  refine Y_getR 10 rfl (pc2 := 22) rfl fl_ci_9 (ly_ci (by omega)) (by decide) rfl rfl (by omega) ?_
  refine Y_iconst 11 rfl (pc2 := 23) rfl (v := nI 0) (by decide) ?_
  refine Y_aload_n 12 rfl (pc2 := 24) rfl rfl ?_
  refine Y_getI 13 rfl (pc2 := 27) rfl fl_ci_24 (ly_ci (by omega)) (by decide) rfl ?_
  refine Y_top (uw_same) ?_
  refine Y_copy_i 14 rfl (pc2 := 30) rfl lk_ci_45 jd_an jd_as jd_si ly_reN (ly_ciN (by omega)) rfl rfl rfl (by omega) (by omega) (by decide) (by decide) (by decide) (Nat.le_of_ble_eq_true rfl) ?_
  refine Y_aload_n 15 rfl (pc2 := 31) rfl rfl ?_
  refine Y_getR 16 rfl (pc2 := 34) rfl fl_ci_51 ly_re (by decide) rfl rfl (by omega) ?_
  refine Y_iconst 17 rfl (pc2 := 35) rfl (v := nI 0) (by decide) ?_
  refine Y_aload_n 18 rfl (pc2 := 36) rfl rfl ?_
  refine Y_getR 19 rfl (pc2 := 39) rfl fl_ci_15 (ly_ci (by omega)) (by decide) rfl rfl (by omega) ?_
  refine Y_iconst 20 rfl (pc2 := 40) rfl (v := nI 0) (by decide) ?_
  refine Y_aload_n 21 rfl (pc2 := 41) rfl rfl ?_
  refine Y_getI 22 rfl (pc2 := 44) rfl fl_ci_24 (ly_ci (by omega)) (by decide) rfl ?_
  refine Y_top ((congrFun (ur_ne (by omega)) 4).trans uw_same) ?_
  refine Y_copy_i 23 rfl (pc2 := 47) rfl lk_ci_45 jd_an jd_as jd_si ly_reG (ly_ciG (by omega)) rfl rfl rfl (by omega) (by omega) (by decide) (by decide) (by decide) (Nat.le_of_ble_eq_true rfl) ?_
  generalize hm4 : ur_ (ur_ (uw_ m (21 + 5 * c) 4 (nI q.1)) (22 + 5 * c) (va_cpy (uw_ m (21 + 5 * c) 4 (nI q.1) 4) (uw_ m (21 + 5 * c) 4 (nI q.1) (22 + 5 * c)) 0 0 q.1)) (23 + 5 * c) (va_cpy (ur_ (uw_ m (21 + 5 * c) 4 (nI q.1)) (22 + 5 * c) (va_cpy (uw_ m (21 + 5 * c) 4 (nI q.1) 4) (uw_ m (21 + 5 * c) 4 (nI q.1) (22 + 5 * c)) 0 0 q.1) 5) (ur_ (uw_ m (21 + 5 * c) 4 (nI q.1)) (22 + 5 * c) (va_cpy (uw_ m (21 + 5 * c) 4 (nI q.1) 4) (uw_ m (21 + 5 * c) 4 (nI q.1) (22 + 5 * c)) 0 0 q.1) (23 + 5 * c)) 0 0 q.1) = m4
  have f1 : m4 (21 + 5 * c) 4 = nI q.1 := by rw [← hm4, ur_ne (by omega), ur_ne (by omega), uw_same]
  have f2 : ∀ b, b < 32 → m4 (22 + 5 * c) b = if b < q.1 then oC (q.2.1 b) else m (22 + 5 * c) b := by
    intro b hb
    rw [← hm4, ur_ne (by omega), ur_same]
    show (if 0 ≤ b ∧ b < 0 + q.1 then uw_ m (21 + 5 * c) 4 (nI q.1) 4 (0 + (b - 0)) else uw_ m (21 + 5 * c) 4 (nI q.1) (22 + 5 * c) b) = _
    by_cases e : b < q.1
    · rw [if_pos (by omega), if_pos e, uw_ne (by omega), show 0 + (b - 0) = b by omega]; exact (h.2 b hb e).1
    · rw [if_neg (by omega), if_neg e, uw_ne (by omega)]
  have f3 : ∀ b, b < 32 → m4 (23 + 5 * c) b = if b < q.1 then oC (q.2.2 b) else m (23 + 5 * c) b := by
    intro b hb
    rw [← hm4, ur_same]
    show (if 0 ≤ b ∧ b < 0 + q.1 then ur_ (uw_ m (21 + 5 * c) 4 (nI q.1)) (22 + 5 * c) _ 5 (0 + (b - 0)) else ur_ (uw_ m (21 + 5 * c) 4 (nI q.1)) (22 + 5 * c) _ (23 + 5 * c) b) = _
    by_cases e : b < q.1
    · rw [if_pos (by omega), if_pos e, ur_ne (by omega), uw_ne (by omega), show 0 + (b - 0) = b by omega]; exact (h.2 b hb e).2
    · rw [if_neg (by omega), if_neg e, ur_ne (by omega), uw_ne (by omega)]
  have f4 : ∀ a, ¬ (21 + 5 * c ≤ a ∧ a ≤ 25 + 5 * c) → m4 a = m a := by
    intro a ha
    rw [← hm4, ur_ne (by omega), ur_ne (by omega)]
    funext k
    rw [uw_ne (by omega)]
  have f5 : ∀ b, b < q.1 → m4 (22 + 5 * c) b = oC (q.2.1 b) := fun b hb => by rw [f2 b (by omega), if_pos hb]
  refine Y_aload_n 24 rfl (pc2 := 48) rfl rfl ?_
  refine Y_cV 25 rfl (pc2 := 51) rfl ok_ci_setTones lk_ci_52 vi_ci_setTones (ly_ci (by omega)) rfl (by decide) rfl (as := []) (rest := []) rfl rfl (T_ci_setTones hc hn f1 f5 (fun b _ => (hk b).1)) ?_
  rintro _ _ ⟨rfl, rfl⟩
  change Y _ _ _ _ _ [] _ _
  refine Y_aload_n 26 rfl (pc2 := 52) rfl rfl ?_
  refine Y_cV 27 rfl (pc2 := 55) rfl ok_ci_setTurns lk_ci_55 vi_ci_setTurns (ly_ci (by omega)) rfl (by decide) rfl (as := []) (rest := []) rfl rfl (T_ci_setTurns (t := toneR q.2.1 q.1) hc hn h1 ((congrFun (ur_ne (by omega)) 4).trans f1) (fun b hb => by rw [ur_same]; unfold flf; rw [if_pos hb])) ?_
  rintro _ _ ⟨rfl, rfl⟩
  change Y _ _ _ _ _ [] _ _
  refine Y_vret 28 rfl rfl ⟨rfl, ?_⟩
  refine ⟨rfl, ?_, fun b hb => ?_, fun b hb => ?_, fun b hb => ?_, fun b hb => ?_, fun a ha => ?_⟩
  · show ur_ _ _ _ _ _ = _; rw [ur_ne (by omega), ur_ne (by omega)]; exact f1
  · show ur_ _ _ _ _ _ = _; rw [ur_ne (by omega), ur_ne (by omega)]; exact f2 b hb
  · show ur_ _ _ _ _ _ = _; rw [ur_ne (by omega), ur_ne (by omega)]; exact f3 b hb
  · show ur_ _ _ _ _ _ = _; rw [ur_ne (by omega), ur_same]; unfold flf; rw [if_pos hb]
  · show ur_ _ _ _ _ _ = _; rw [ur_same]; unfold flf; rw [if_pos hb]
  · show ur_ _ _ _ _ = _; rw [ur_ne (by omega), ur_ne (by omega)]; exact f4 a ha
