/-! the class: laying, feeding -/
def flf (row : Nat → Int32) (n : Nat) (f : Nat → Int32) : Nat → Int32 := fun k => if k < n then f k else row k
set_option maxHeartbeats 400000 in
theorem flf_s {m : Mm} {a i : Nat} {f : Nat → Int32} : uw_ (ur_ m a (flf (m a) i f)) a i (f i) = ur_ m a (flf (m a) (i + 1) f) := by
  funext b k
  by_cases hb : b = a
  · subst hb
    by_cases hk : k = i
    · subst hk
      rw [uw_same]
      simp [ur_, flf]
    · rw [uw_ne (by omega)]
      simp only [ur_, flf, if_true]
      by_cases h1 : k < i
      · rw [if_pos h1, if_pos (by omega)]
      · rw [if_neg h1, if_neg (by omega)]
  · rw [uw_ne (by omega)]
    simp [ur_, hb]
set_option maxHeartbeats 400000 in
theorem flf_0 {m : Mm} {a : Nat} {f : Nat → Int32} : m = ur_ m a (flf (m a) 0 f) := by
  funext b k
  by_cases hb : b = a
  · subst hb; simp [ur_, flf]
  · simp [ur_, hb]
noncomputable def vS (S : Mm) (s k : Nat) : Int32 := cI (k < plc S s ∧ (-4 ≤ S 166 (16 * s + k) ∧ S 166 (16 * s + k) ≤ nI 4)) (S 166 (16 * s + k)) (-9)
set_option maxHeartbeats 400000 in
theorem vS_isS {S : Mm} {s k : Nat} : isS (vS S s k) := by
  unfold vS
  by_cases h : k < plc S s ∧ (-4 ≤ S 166 (16 * s + k) ∧ S 166 (16 * s + k) ≤ nI 4)
  · rw [cI_t h]; exact Or.inr (sh_is h.2)
  · rw [cI_f h]; exact Or.inl rfl
set_option maxHeartbeats 400000 in
theorem vS_t {S : Mm} {s k : Nat} (h : k < plc S s ∧ (-4 ≤ S 166 (16 * s + k) ∧ S 166 (16 * s + k) ≤ nI 4)) : oS (vS S s k) = S 166 (16 * s + k) := by
  unfold vS
  rw [cI_t h]
  have := mtd_oS (Or.inr h.2)
  unfold mtd at this
  have e : ¬ S 166 (16 * s + k) = NONE_ := by
    intro q
    rw [q] at h
    exact absurd h.2.1 (by decide)
  rw [if_neg e] at this
  exact this.symm
set_option maxHeartbeats 400000 in
theorem vS_f {S : Mm} {s k : Nat} (h : ¬ (k < plc S s ∧ (-4 ≤ S 166 (16 * s + k) ∧ S 166 (16 * s + k) ≤ nI 4))) : oS (vS S s k) = NONE_ := by
  unfold vS
  rw [cI_f h]; rfl
noncomputable def layS (S : Mm) (l f g s : Nat) : Mm := ur_ S 157 (fun k => if ix l f g 0 ≤ k ∧ k < ix l f g 0 + 2 ^ (l + 1) then vS S s (k - ix l f g 0) else S 157 k)
set_option maxHeartbeats 400000 in
theorem lay_at {S : Mm} {l f g s i : Nat} (hi : i < 2 ^ (l + 1)) : layS S l f g s 157 (ix l f g i) = vS S s i := by
  show (if ix l f g 0 ≤ ix l f g i ∧ ix l f g i < ix l f g 0 + 2 ^ (l + 1) then vS S s (ix l f g i - ix l f g 0) else _) = _
  have e : ix l f g i - ix l f g 0 = i := by unfold ix; omega
  rw [if_pos (by unfold ix; omega), e]

set_option maxHeartbeats 400000 in
theorem RC_lay {m S : Mm} (h : RC m S) (w : WF S) {l0 f0 g0 s0 : Nat} (hl0 : l0 < 4) (hf0 : f0 < 6) (hg0 : g0 < 2) : RC (ur_ m (45 + 27 * l0 + 4 * f0 + g0) (flf (m (45 + 27 * l0 + 4 * f0 + g0)) (2 ^ (l0 + 1)) (fun k => oS (vS S s0 k)))) (layS S l0 f0 g0 s0) := by
  refine ⟨fun c hc => ?_, fun c b hc hb => ?_, fun c b hc hb => ?_, fun c b hc hb => ?_, fun c b hc hb => ?_, fun l hl => ?_, fun l f g s hl hf hg hs => ?_, fun l f s hl hf hs => ?_, fun l k hl hk => ?_, ?_, fun p hp => ?_, fun p hp => ?_, fun p hp => ?_, fun r hr => ?_, ?_, ?_, fun i hi => ?_, fun s hs => ?_, fun s i hs hi => ?_⟩
  · rw [ur_ne (by omega)]; exact h.b c hc
  · rw [ur_ne (by omega)]; exact h.n c b hc hb
  · rw [ur_ne (by omega)]; exact h.g c b hc hb
  · rw [ur_ne (by omega)]; exact h.t c b hc hb
  · rw [ur_ne (by omega)]; exact h.u c b hc hb
  · rw [ur_ne (by intro q9; rcases (by omega : l = l0 ∨ l + 1 ≤ l0 ∨ l0 + 1 ≤ l) with q | q | q <;> omega)]; exact h.l l hl
  · have hz := sz_16 hl
    have hz0 := sz_16 hl0
    by_cases e : l = l0 ∧ f = f0 ∧ g = g0
    · obtain ⟨rfl, rfl, rfl⟩ := e
      rw [ur_same, lay_at hs]
      unfold flf
      rw [if_pos hs]
    · rw [ur_ne (by intro q9; rcases (by omega : l = l0 ∨ l + 1 ≤ l0 ∨ l0 + 1 ≤ l) with q | q | q <;> rcases (by omega : f = f0 ∨ f + 1 ≤ f0 ∨ f0 + 1 ≤ f) with q2 | q2 | q2 <;> omega)]
      show _ = oS (if ix l0 f0 g0 0 ≤ ix l f g s ∧ ix l f g s < ix l0 f0 g0 0 + 2 ^ (l0 + 1) then _ else S 157 (ix l f g s))
      rw [if_neg (by unfold ix; omega)]
      exact h.r l f g s hl hf hg hs
  · rw [ur_ne (by intro q9; rcases (by omega : l = l0 ∨ l + 1 ≤ l0 ∨ l0 + 1 ≤ l) with q | q | q <;> rcases (by omega : f = f0 ∨ f + 1 ≤ f0 ∨ f0 + 1 ≤ f) with q2 | q2 | q2 <;> omega)]; exact h.m l f s hl hf hs
  · rw [ur_ne (by intro q9; rcases (by omega : l = l0 ∨ l + 1 ≤ l0 ∨ l0 + 1 ≤ l) with q | q | q <;> omega)]; exact h.us l k hl hk
  · rw [ur_ne (by omega)]; exact h.p 
  · rw [ur_ne (by omega)]; exact h.c p hp
  · rw [ur_ne (by omega)]; exact h.pt p hp
  · rw [ur_ne (by omega)]; exact h.pl p hp
  · rw [ur_ne (by omega)]; exact h.sg r hr
  · rw [ur_ne (by omega)]; exact h.sn 
  · rw [ur_ne (by omega)]; exact h.tp 
  · rw [ur_ne (by omega)]; exact h.tv i hi
  · rw [ur_ne (by omega)]; exact h.sp s hs
  · rw [ur_ne (by omega)]; exact h.sb s i hs hi

set_option maxHeartbeats 400000 in
theorem WF_lay {S : Mm} (w : WF S) {l0 f0 g0 s0 : Nat} : WF (layS S l0 f0 g0 s0) := by
  refine ⟨fun c hc => ?_, fun i hi => ?_, fun i hi => ?_, fun i hi => ?_, fun i hi => ?_, fun l k hl hk => ?_, ?_, fun p hp => ?_, fun p hp => ?_, fun p hp => ?_, fun p hp => ?_, fun r hr => ?_, ?_, fun i hi => ?_, fun s hs => ?_, fun i hi => ?_, ?_⟩
  · exact w.b c hc
  · exact w.n i hi
  · exact w.g i hi
  · show isS (if ix l0 f0 g0 0 ≤ i ∧ i < ix l0 f0 g0 0 + 2 ^ (l0 + 1) then _ else S 157 i)
    split
    · exact vS_isS
    · exact w.s i hi
  · exact w.m i hi
  · exact w.u l k hl hk
  · exact w.p 
  · exact w.c p hp
  · exact w.t p hp
  · exact w.t1 p hp
  · exact w.l p hp
  · exact w.r r hr
  · exact w.tp 
  · exact w.tv i hi
  · exact w.pl s hs
  · exact w.k i hi
  · exact w.sg 

set_option maxHeartbeats 400000 in
theorem L_takeRow {G : Nat × (Nat → Int32)} {m : Mm} {S : Mm} (h : RC m S) (w : WF S) {l f g s : Nat} (hl : l < 4) (hf : f < 6) (hg : g < 2) (hs : s < 2) (hq : ¬ S 165 s = -1) : ∀ i, i ≤ 2 ^ (l + 1) → ∀ (u : Option Value), Y G M_fi_takeRow (0, 0) 9 [some (.ref (44 + 27 * l + 4 * f)), some (.int (nI g)), some (.ref (149 + 2 * s)), some (.ref (45 + 27 * l + 4 * f + g)), some (.int (nI i)), u] [] (LAY, ur_ m (45 + 27 * l + 4 * f + g) (flf (m (45 + 27 * l + 4 * f + g)) i (fun k => oS (vS S s k)))) (qm_ LAY (pf_ (ur_ m (45 + 27 * l + 4 * f + g) (flf (m (45 + 27 * l + 4 * f + g)) (2 ^ (l + 1)) (fun k => oS (vS S s k)))))) := by
  have hz := sz_16 hl
  have hpl := (plc_is w hs hq).2
  refine ind_ (fun i hi ih u => ?_)
  refine Y_iload 6 rfl (pc2 := 11) rfl rfl ?_
  refine Y_aload_n 7 rfl (pc2 := 12) rfl rfl ?_
  refine Y_alen_i 8 rfl (pc2 := 13) rfl (ly_fiR (by omega) (by omega) (by omega)) rfl ?_
  refine Y_icmp_gen 9 rfl (pc2 := 16) rfl (tgt := 72) (by decide) (by omega) (by omega) (fun h13 => ?_) (fun h13 => ?_)
  · refine Y_vret 37 rfl rfl ⟨rfl, ?_⟩
    exact ⟨rfl, by rw [show i = 2 ^ (l + 1) by omega]⟩
  · refine Y_iload 10 rfl (pc2 := 18) rfl rfl ?_
    refine Y_aload_n 11 rfl (pc2 := 19) rfl rfl ?_
    refine Y_getI 12 rfl (pc2 := 22) rfl fl_fi_33 (ly_sh (by omega)) (by decide) rfl ?_
    refine Y_top ((congrFun (ur_ne (by omega)) _).trans ((h.sp s hs).trans (plc_is w hs hq).1)) ?_
    refine Y_icmp_gen 13 rfl (pc2 := 25) rfl (tgt := 42) (by decide) (by omega) (by omega) (fun h22 => ?_) (fun h22 => ?_)
    · refine Y_iconst 22 rfl (pc2 := 43) rfl (v := nI 0) (by decide) ?_
      refine Y_istore 23 rfl (pc2 := 45) rfl (Nat.le_of_ble_eq_true rfl) (ls2 := [some (.ref _), some (.int _), some (.ref _), some (.ref _), some (.int _), some (.int _)]) rfl ?_
      refine Y_aload_n 24 rfl (pc2 := 46) rfl rfl ?_
      refine Y_iload 25 rfl (pc2 := 48) rfl rfl ?_
      refine Y_iload 26 rfl (pc2 := 50) rfl rfl ?_
      refine Y_if_eqn 27 rfl (pc2 := 53) rfl (tgt := 63) (by decide) (by omega) (fun h50 => ?_) (fun h50 => ?_)
      · refine Y_ldc 33 rfl (pc2 := 65) rfl kc_fi_22 ?_
        refine Y_iast 34 rfl (pc2 := 66) rfl (ly_fiR (by omega) (by omega) (by omega)) rfl (by omega) (sz_lt (by omega)) rfl ?_
        refine Y_iinc 35 rfl (pc2 := 69) rfl rfl (nI_inc _ 1) (ls2 := [some (.ref _), some (.int _), some (.ref _), some (.ref _), some (.int _), some (.int _)]) rfl ?_
        refine Y_goto 36 rfl (pc2 := 9) (by decide) ?_
        first
          | omega
          | exact (by
              have e : oS (vS S s i) = S 166 (16 * s + i) := vS_t ⟨by omega, h35⟩
              have hi2 := ih (i + 1) (by omega) (by omega) (some (.int (nI 1)))
              rw [← flf_s] at hi2
              simp only [e] at hi2
              exact hi2)
          | exact (by
              have e : oS (vS S s i) = NONE_ := vS_f (fun q => h35 q.2)
              have hi2 := ih (i + 1) (by omega) (by omega) (some (.int (nI 0)))
              rw [← flf_s] at hi2
              simp only [e] at hi2
              exact hi2)
          | exact (by
              have e : oS (vS S s i) = NONE_ := vS_f (fun q => absurd q.1 (by omega))
              have hi2 := ih (i + 1) (by omega) (by omega) (some (.int (nI 0)))
              rw [← flf_s] at hi2
              simp only [e] at hi2
              exact hi2)
      · refine Y_aload_n 28 rfl (pc2 := 54) rfl rfl ?_
        refine Y_getR 29 rfl (pc2 := 57) rfl fl_fi_39 (ly_sh (by omega)) (by decide) rfl rfl (by omega) ?_
        refine Y_iload 30 rfl (pc2 := 59) rfl rfl ?_
        refine Y_bald 31 rfl (pc2 := 60) rfl (ly_shB (by omega)) rfl (by omega) (by decide) ?_
        refine Y_top ((congrFun (ur_ne (by omega)) _).trans (h.sb s i hs (by omega))) ?_
        refine Y_goto 32 rfl (pc2 := 65) (by decide) ?_
        refine Y_iast 34 rfl (pc2 := 66) rfl (ly_fiR (by omega) (by omega) (by omega)) rfl (by omega) (sz_lt (by omega)) rfl ?_
        refine Y_iinc 35 rfl (pc2 := 69) rfl rfl (nI_inc _ 1) (ls2 := [some (.ref _), some (.int _), some (.ref _), some (.ref _), some (.int _), some (.int _)]) rfl ?_
        refine Y_goto 36 rfl (pc2 := 9) (by decide) ?_
        first
          | omega
          | exact (by
              have e : oS (vS S s i) = S 166 (16 * s + i) := vS_t ⟨by omega, h35⟩
              have hi2 := ih (i + 1) (by omega) (by omega) (some (.int (nI 1)))
              rw [← flf_s] at hi2
              simp only [e] at hi2
              exact hi2)
          | exact (by
              have e : oS (vS S s i) = NONE_ := vS_f (fun q => h35 q.2)
              have hi2 := ih (i + 1) (by omega) (by omega) (some (.int (nI 0)))
              rw [← flf_s] at hi2
              simp only [e] at hi2
              exact hi2)
          | exact (by
              have e : oS (vS S s i) = NONE_ := vS_f (fun q => absurd q.1 (by omega))
              have hi2 := ih (i + 1) (by omega) (by omega) (some (.int (nI 0)))
              rw [← flf_s] at hi2
              simp only [e] at hi2
              exact hi2)
    · refine Y_aload_n 14 rfl (pc2 := 26) rfl rfl ?_
      refine Y_getR 15 rfl (pc2 := 29) rfl fl_fi_39 (ly_sh (by omega)) (by decide) rfl rfl (by omega) ?_
      refine Y_iload 16 rfl (pc2 := 31) rfl rfl ?_
      refine Y_bald 17 rfl (pc2 := 32) rfl (ly_shB (by omega)) rfl (by omega) (by decide) ?_
      refine Y_top ((congrFun (ur_ne (by omega)) _).trans (h.sb s i hs (by omega))) ?_
      refine Y_cS 18 rfl (pc2 := 35) rfl ok_gh_isShift lk_fi_43 vs_gh_isShift (as := [.int _]) (rest := []) rfl rfl T_gh_isShift ?_
      rintro _ _ ⟨rfl, rfl⟩
      change Y _ _ _ _ _ [.int _] _ _
      refine Y_if_eqb 19 rfl (pc2 := 38) rfl (tgt := 42) (by decide) (fun h35 => ?_) (fun h35 => ?_)
      · refine Y_iconst 22 rfl (pc2 := 43) rfl (v := nI 0) (by decide) ?_
        refine Y_istore 23 rfl (pc2 := 45) rfl (Nat.le_of_ble_eq_true rfl) (ls2 := [some (.ref _), some (.int _), some (.ref _), some (.ref _), some (.int _), some (.int _)]) rfl ?_
        refine Y_aload_n 24 rfl (pc2 := 46) rfl rfl ?_
        refine Y_iload 25 rfl (pc2 := 48) rfl rfl ?_
        refine Y_iload 26 rfl (pc2 := 50) rfl rfl ?_
        refine Y_if_eqn 27 rfl (pc2 := 53) rfl (tgt := 63) (by decide) (by omega) (fun h50 => ?_) (fun h50 => ?_)
        · refine Y_ldc 33 rfl (pc2 := 65) rfl kc_fi_22 ?_
          refine Y_iast 34 rfl (pc2 := 66) rfl (ly_fiR (by omega) (by omega) (by omega)) rfl (by omega) (sz_lt (by omega)) rfl ?_
          refine Y_iinc 35 rfl (pc2 := 69) rfl rfl (nI_inc _ 1) (ls2 := [some (.ref _), some (.int _), some (.ref _), some (.ref _), some (.int _), some (.int _)]) rfl ?_
          refine Y_goto 36 rfl (pc2 := 9) (by decide) ?_
          first
            | omega
            | exact (by
                have e : oS (vS S s i) = S 166 (16 * s + i) := vS_t ⟨by omega, h35⟩
                have hi2 := ih (i + 1) (by omega) (by omega) (some (.int (nI 1)))
                rw [← flf_s] at hi2
                simp only [e] at hi2
                exact hi2)
            | exact (by
                have e : oS (vS S s i) = NONE_ := vS_f (fun q => h35 q.2)
                have hi2 := ih (i + 1) (by omega) (by omega) (some (.int (nI 0)))
                rw [← flf_s] at hi2
                simp only [e] at hi2
                exact hi2)
            | exact (by
                have e : oS (vS S s i) = NONE_ := vS_f (fun q => absurd q.1 (by omega))
                have hi2 := ih (i + 1) (by omega) (by omega) (some (.int (nI 0)))
                rw [← flf_s] at hi2
                simp only [e] at hi2
                exact hi2)
        · refine Y_aload_n 28 rfl (pc2 := 54) rfl rfl ?_
          refine Y_getR 29 rfl (pc2 := 57) rfl fl_fi_39 (ly_sh (by omega)) (by decide) rfl rfl (by omega) ?_
          refine Y_iload 30 rfl (pc2 := 59) rfl rfl ?_
          refine Y_bald 31 rfl (pc2 := 60) rfl (ly_shB (by omega)) rfl (by omega) (by decide) ?_
          refine Y_top ((congrFun (ur_ne (by omega)) _).trans (h.sb s i hs (by omega))) ?_
          refine Y_goto 32 rfl (pc2 := 65) (by decide) ?_
          refine Y_iast 34 rfl (pc2 := 66) rfl (ly_fiR (by omega) (by omega) (by omega)) rfl (by omega) (sz_lt (by omega)) rfl ?_
          refine Y_iinc 35 rfl (pc2 := 69) rfl rfl (nI_inc _ 1) (ls2 := [some (.ref _), some (.int _), some (.ref _), some (.ref _), some (.int _), some (.int _)]) rfl ?_
          refine Y_goto 36 rfl (pc2 := 9) (by decide) ?_
          first
            | omega
            | exact (by
                have e : oS (vS S s i) = S 166 (16 * s + i) := vS_t ⟨by omega, h35⟩
                have hi2 := ih (i + 1) (by omega) (by omega) (some (.int (nI 1)))
                rw [← flf_s] at hi2
                simp only [e] at hi2
                exact hi2)
            | exact (by
                have e : oS (vS S s i) = NONE_ := vS_f (fun q => h35 q.2)
                have hi2 := ih (i + 1) (by omega) (by omega) (some (.int (nI 0)))
                rw [← flf_s] at hi2
                simp only [e] at hi2
                exact hi2)
            | exact (by
                have e : oS (vS S s i) = NONE_ := vS_f (fun q => absurd q.1 (by omega))
                have hi2 := ih (i + 1) (by omega) (by omega) (some (.int (nI 0)))
                rw [← flf_s] at hi2
                simp only [e] at hi2
                exact hi2)
      · refine Y_iconst 20 rfl (pc2 := 39) rfl (v := nI 1) (by decide) ?_
        refine Y_goto 21 rfl (pc2 := 43) (by decide) ?_
        refine Y_istore 23 rfl (pc2 := 45) rfl (Nat.le_of_ble_eq_true rfl) (ls2 := [some (.ref _), some (.int _), some (.ref _), some (.ref _), some (.int _), some (.int _)]) rfl ?_
        refine Y_aload_n 24 rfl (pc2 := 46) rfl rfl ?_
        refine Y_iload 25 rfl (pc2 := 48) rfl rfl ?_
        refine Y_iload 26 rfl (pc2 := 50) rfl rfl ?_
        refine Y_if_eqn 27 rfl (pc2 := 53) rfl (tgt := 63) (by decide) (by omega) (fun h50 => ?_) (fun h50 => ?_)
        · refine Y_ldc 33 rfl (pc2 := 65) rfl kc_fi_22 ?_
          refine Y_iast 34 rfl (pc2 := 66) rfl (ly_fiR (by omega) (by omega) (by omega)) rfl (by omega) (sz_lt (by omega)) rfl ?_
          refine Y_iinc 35 rfl (pc2 := 69) rfl rfl (nI_inc _ 1) (ls2 := [some (.ref _), some (.int _), some (.ref _), some (.ref _), some (.int _), some (.int _)]) rfl ?_
          refine Y_goto 36 rfl (pc2 := 9) (by decide) ?_
          first
            | omega
            | exact (by
                have e : oS (vS S s i) = S 166 (16 * s + i) := vS_t ⟨by omega, h35⟩
                have hi2 := ih (i + 1) (by omega) (by omega) (some (.int (nI 1)))
                rw [← flf_s] at hi2
                simp only [e] at hi2
                exact hi2)
            | exact (by
                have e : oS (vS S s i) = NONE_ := vS_f (fun q => h35 q.2)
                have hi2 := ih (i + 1) (by omega) (by omega) (some (.int (nI 0)))
                rw [← flf_s] at hi2
                simp only [e] at hi2
                exact hi2)
            | exact (by
                have e : oS (vS S s i) = NONE_ := vS_f (fun q => absurd q.1 (by omega))
                have hi2 := ih (i + 1) (by omega) (by omega) (some (.int (nI 0)))
                rw [← flf_s] at hi2
                simp only [e] at hi2
                exact hi2)
        · refine Y_aload_n 28 rfl (pc2 := 54) rfl rfl ?_
          refine Y_getR 29 rfl (pc2 := 57) rfl fl_fi_39 (ly_sh (by omega)) (by decide) rfl rfl (by omega) ?_
          refine Y_iload 30 rfl (pc2 := 59) rfl rfl ?_
          refine Y_bald 31 rfl (pc2 := 60) rfl (ly_shB (by omega)) rfl (by omega) (by decide) ?_
          refine Y_top ((congrFun (ur_ne (by omega)) _).trans (h.sb s i hs (by omega))) ?_
          refine Y_goto 32 rfl (pc2 := 65) (by decide) ?_
          refine Y_iast 34 rfl (pc2 := 66) rfl (ly_fiR (by omega) (by omega) (by omega)) rfl (by omega) (sz_lt (by omega)) rfl ?_
          refine Y_iinc 35 rfl (pc2 := 69) rfl rfl (nI_inc _ 1) (ls2 := [some (.ref _), some (.int _), some (.ref _), some (.ref _), some (.int _), some (.int _)]) rfl ?_
          refine Y_goto 36 rfl (pc2 := 9) (by decide) ?_
          first
            | omega
            | exact (by
                have e : oS (vS S s i) = S 166 (16 * s + i) := vS_t ⟨by omega, h35⟩
                have hi2 := ih (i + 1) (by omega) (by omega) (some (.int (nI 1)))
                rw [← flf_s] at hi2
                simp only [e] at hi2
                exact hi2)
            | exact (by
                have e : oS (vS S s i) = NONE_ := vS_f (fun q => h35 q.2)
                have hi2 := ih (i + 1) (by omega) (by omega) (some (.int (nI 0)))
                rw [← flf_s] at hi2
                simp only [e] at hi2
                exact hi2)
            | exact (by
                have e : oS (vS S s i) = NONE_ := vS_f (fun q => absurd q.1 (by omega))
                have hi2 := ih (i + 1) (by omega) (by omega) (some (.int (nI 0)))
                rw [← flf_s] at hi2
                simp only [e] at hi2
                exact hi2)

set_option maxHeartbeats 400000 in
theorem T_fi_takeRow {G : Nat × (Nat → Int32)} {m : Mm} {S : Mm} (h : RC m S) (w : WF S) {l f g s : Nat} (hl : l < 4) (hf : f < 6) (hg : g < 2) (hs : s < 2) (hq : ¬ S 165 s = -1) : Y G M_fi_takeRow (0, 0) 0 (en_ M_fi_takeRow [.ref (44 + 27 * l + 4 * f), .int (nI g), .ref (149 + 2 * s)]) [] (LAY, m) (qm_ LAY (pf_ (ur_ m (45 + 27 * l + 4 * f + g) (flf (m (45 + 27 * l + 4 * f + g)) (2 ^ (l + 1)) (fun k => oS (vS S s k)))))) := by
  change Y _ _ _ _ [some (.ref _), some (.int _), some (.ref _), none, none, none] _ _ _
  refine Y_aload_n 0 rfl (pc2 := 1) rfl rfl ?_
  refine Y_iload_n 1 rfl (pc2 := 2) rfl rfl ?_
  refine Y_cV 2 rfl (pc2 := 5) rfl ok_fi_rowOf lk_fi_29 vi_fi_rowOf (ly_fi (by omega) (by omega)) rfl (by decide) rfl (as := [.int _]) (rest := []) rfl rfl (T_fi_rowOf (by omega) (by omega) (by omega)) ?_
  rintro _ _ ⟨rfl, rfl⟩
  change Y _ _ _ _ _ [.ref _] _ _
  refine Y_astore_n 3 rfl (pc2 := 6) rfl (Nat.le_of_ble_eq_true rfl) (ls2 := [some (.ref _), some (.int _), some (.ref _), some (.ref _), none, none]) rfl ?_
  refine Y_iconst 4 rfl (pc2 := 7) rfl (v := nI 0) (by decide) ?_
  refine Y_istore 5 rfl (pc2 := 9) rfl (Nat.le_of_ble_eq_true rfl) (ls2 := [some (.ref _), some (.int _), some (.ref _), some (.ref _), some (.int _), none]) rfl ?_
  exact Y_mem flf_0 (L_takeRow h w hl hf hg hs hq 0 (Nat.zero_le _) _)

def laC (x y z s : Int32) : Prop := (iR x 4 ∧ iR y 6) ∧ iR z 2 ∧ iR s 2
noncomputable def sp_lay (S : Mm) (x y z s : Int32) : Int32 := cI (laC x y z s) (cI (S 165 (nv s) = -1) NOTHING_ (if 2 ^ (nv x + 1) < plc S (nv s) then INDEX_ else nI (cnt (fun k => ¬ vS S (nv s) k = -9) (2 ^ (nv x + 1))))) BAD_
noncomputable def st_lay (S : Mm) (x y z s : Int32) : Mm := cI (laC x y z s ∧ ¬ S 165 (nv s) = -1 ∧ ¬ 2 ^ (nv x + 1) < plc S (nv s)) (layS S (nv x) (nv y) (nv z) (nv s)) S

set_option maxHeartbeats 400000 in
theorem T_gh_lay {G : Nat × (Nat → Int32)} {m : Mm} {S : Mm} (h : RC m S) (w : WF S) {x y z u : Int32} : Y G M_gh_lay (0, 0) 0 (en_ M_gh_lay [.ref (0), .int (x), .int (y), .int (z), .int (u)]) [] (LAY, m) (qm_ LAY (pc_ (sp_lay S x y z u) m (st_lay S x y z u))) := by
  change Y _ _ _ _ [some (.ref _), some (.int _), some (.int _), some (.int _), some (.int _), none] _ _ _
  refine Y_iload_n 0 rfl (pc2 := 1) rfl rfl ?_
  refine Y_iload_n 1 rfl (pc2 := 2) rfl rfl ?_
  refine Y_cS 2 rfl (pc2 := 5) rfl ok_gh_hasFigure lk_gh_127 vs_gh_hasFigure (as := [.int _, .int _]) (rest := []) rfl rfl T_gh_hasFigure ?_
  rintro _ _ ⟨rfl, rfl⟩
  change Y _ _ _ _ _ [.int _] _ _
  refine Y_if_eqb 3 rfl (pc2 := 8) rfl (tgt := 25) (by decide) (fun h5 => ?_) (fun h5 => ?_)
  · refine Y_ldc 12 rfl (pc2 := 27) rfl kc_gh_75 ?_
    refine Y_iret 13 rfl rfl rfl ⟨rfl, ?_⟩
    first | exact pc_bad h (by unfold sp_lay; rw [cI_f (fun e => h5 e.1)]; rfl) (by unfold st_lay; rw [cI_f (fun e => h5 e.1.1)]) | exact pc_bad h (by unfold sp_lay; rw [cI_f (fun e => h13 e.2.1)]; rfl) (by unfold st_lay; rw [cI_f (fun e => h13 e.1.2.1)]) | exact pc_bad h (by unfold sp_lay; rw [cI_f (fun e => h22 e.2.2)]; rfl) (by unfold st_lay; rw [cI_f (fun e => h22 e.1.2.2)])
  · obtain ⟨⟨l, hl, rfl⟩, ⟨f, hf, rfl⟩⟩ := h5
    have hz := sz_16 hl
    refine Y_iload_n 4 rfl (pc2 := 9) rfl rfl ?_
    refine Y_iconst 5 rfl (pc2 := 10) rfl (v := nI 2) (by decide) ?_
    refine Y_cS 6 rfl (pc2 := 13) rfl ok_gh_isBelow lk_gh_80 vs_gh_isBelow (as := [.int _, .int _]) (rest := []) rfl rfl (T_gh_isBelow (by omega)) ?_
    rintro _ _ ⟨rfl, rfl⟩
    change Y _ _ _ _ _ [.int _] _ _
    refine Y_if_eqb 7 rfl (pc2 := 16) rfl (tgt := 25) (by decide) (fun h13 => ?_) (fun h13 => ?_)
    · refine Y_ldc 12 rfl (pc2 := 27) rfl kc_gh_75 ?_
      refine Y_iret 13 rfl rfl rfl ⟨rfl, ?_⟩
      first | exact pc_bad h (by unfold sp_lay; rw [cI_f (fun e => h5 e.1)]; rfl) (by unfold st_lay; rw [cI_f (fun e => h5 e.1.1)]) | exact pc_bad h (by unfold sp_lay; rw [cI_f (fun e => h13 e.2.1)]; rfl) (by unfold st_lay; rw [cI_f (fun e => h13 e.1.2.1)]) | exact pc_bad h (by unfold sp_lay; rw [cI_f (fun e => h22 e.2.2)]; rfl) (by unfold st_lay; rw [cI_f (fun e => h22 e.1.2.2)])
    · obtain ⟨g, hg, rfl⟩ := h13
      refine Y_iload 8 rfl (pc2 := 18) rfl rfl ?_
      refine Y_iconst 9 rfl (pc2 := 19) rfl (v := nI 2) (by decide) ?_
      refine Y_cS 10 rfl (pc2 := 22) rfl ok_gh_isBelow lk_gh_80 vs_gh_isBelow (as := [.int _, .int _]) (rest := []) rfl rfl (T_gh_isBelow (by omega)) ?_
      rintro _ _ ⟨rfl, rfl⟩
      change Y _ _ _ _ _ [.int _] _ _
      refine Y_if_neb 11 rfl (pc2 := 25) rfl (tgt := 28) (by decide) (fun h22 => ?_) (fun h22 => ?_)
      · obtain ⟨s, hs, rfl⟩ := h22
        refine Y_aload_n 14 rfl (pc2 := 29) rfl rfl ?_
        refine Y_getR 15 rfl (pc2 := 32) rfl fl_gh_58 ly_gh (by decide) rfl rfl (by omega) ?_
        refine Y_iload 16 rfl (pc2 := 34) rfl rfl ?_
        refine Y_aald 17 rfl (pc2 := 35) rfl ly_ghS (by decide) (fun _ => rfl) rfl (by omega) (by decide) (ly_ghS_at (by omega)) (by omega) ?_
        refine Y_cV 18 rfl (pc2 := 38) rfl ok_sh_isMissing lk_gh_130 vi_sh_isMissing (ly_sh (by omega)) rfl (by decide) rfl (as := []) (rest := []) rfl rfl (T_sh_isMissing h w (by omega)) ?_
        rintro _ _ ⟨rfl, rfl⟩
        change Y _ _ _ _ _ [.int _] _ _
        refine Y_if_eqb 19 rfl (pc2 := 41) rfl (tgt := 44) (by decide) (fun h38 => ?_) (fun h38 => ?_)
        · have hpl := (plc_is w hs h38).2
          refine Y_aload_n 22 rfl (pc2 := 45) rfl rfl ?_
          refine Y_getR 23 rfl (pc2 := 48) rfl fl_gh_58 ly_gh (by decide) rfl rfl (by omega) ?_
          refine Y_iload 24 rfl (pc2 := 50) rfl rfl ?_
          refine Y_aald 25 rfl (pc2 := 51) rfl ly_ghS (by decide) (fun _ => rfl) rfl (by omega) (by decide) (ly_ghS_at (by omega)) (by omega) ?_
          refine Y_getI 26 rfl (pc2 := 54) rfl fl_gh_135 (ly_sh (by omega)) (by decide) rfl ?_
          refine Y_top ((h.sp s hs).trans (plc_is w hs h38).1) ?_
          refine Y_aload_n 27 rfl (pc2 := 55) rfl rfl ?_
          refine Y_getR 28 rfl (pc2 := 58) rfl fl_gh_31 ly_gh (by decide) rfl rfl (by omega) ?_
          refine Y_iload_n 29 rfl (pc2 := 59) rfl rfl ?_
          refine Y_aald 30 rfl (pc2 := 60) rfl ly_ghL (by decide) (fun _ => rfl) rfl (by omega) (by decide) (ly_ghL_at (by omega)) (by omega) ?_
          refine Y_getI 31 rfl (pc2 := 63) rfl fl_gh_138 (ly_le (by omega)) (by decide) rfl ?_
          refine Y_top (h.l _ (by omega)) ?_
          refine Y_icmp_len 32 rfl (pc2 := 66) rfl (tgt := 69) (by decide) (by omega) (by omega) (fun h63 => ?_) (fun h63 => ?_)
          · refine Y_aload_n 35 rfl (pc2 := 70) rfl rfl ?_
            refine Y_getR 36 rfl (pc2 := 73) rfl fl_gh_31 ly_gh (by decide) rfl rfl (by omega) ?_
            refine Y_iload_n 37 rfl (pc2 := 74) rfl rfl ?_
            refine Y_aald 38 rfl (pc2 := 75) rfl ly_ghL (by decide) (fun _ => rfl) rfl (by omega) (by decide) (ly_ghL_at (by omega)) (by omega) ?_
            refine Y_getR 39 rfl (pc2 := 78) rfl fl_gh_117 (ly_le (by omega)) (by decide) rfl rfl (by omega) ?_
            refine Y_iload_n 40 rfl (pc2 := 79) rfl rfl ?_
            refine Y_aald 41 rfl (pc2 := 80) rfl (ly_leF (by omega)) (by decide) (fun _ => rfl) rfl (by omega) (by decide) (ly_leF_at (by omega)) (by omega) ?_
            refine Y_astore 42 rfl (pc2 := 82) rfl (Nat.le_of_ble_eq_true rfl) (ls2 := [some (.ref _), some (.int _), some (.int _), some (.int _), some (.int _), some (.ref _)]) rfl ?_
            refine Y_aload 43 rfl (pc2 := 84) rfl rfl ?_
            refine Y_iload_n 44 rfl (pc2 := 85) rfl rfl ?_
            refine Y_aload_n 45 rfl (pc2 := 86) rfl rfl ?_
            refine Y_getR 46 rfl (pc2 := 89) rfl fl_gh_58 ly_gh (by decide) rfl rfl (by omega) ?_
            refine Y_iload 47 rfl (pc2 := 91) rfl rfl ?_
            refine Y_aald 48 rfl (pc2 := 92) rfl ly_ghS (by decide) (fun _ => rfl) rfl (by omega) (by decide) (ly_ghS_at (by omega)) (by omega) ?_
            refine Y_cV 49 rfl (pc2 := 95) rfl ok_fi_takeRow lk_gh_142 vi_fi_takeRow (ly_fi (by omega) (by omega)) rfl (by decide) rfl (as := [.int _, .ref _]) (rest := []) rfl rfl (T_fi_takeRow h w hl hf hg hs h38) ?_
            rintro _ _ ⟨rfl, rfl⟩
            change Y _ _ _ _ _ [] _ _
            refine Y_aload 50 rfl (pc2 := 97) rfl rfl ?_
            refine Y_iload_n 51 rfl (pc2 := 98) rfl rfl ?_
            refine Y_cV 52 rfl (pc2 := 101) rfl ok_fi_strikesOf lk_gh_146 vi_fi_strikesOf (ly_fi (by omega) (by omega)) rfl (by decide) rfl (as := [.int _]) (rest := []) rfl rfl (T_fi_strikesOf (RC_lay h w hl hf hg) (WF_lay w) (l := l) (f := f) (g := g) hl hf hg) ?_
            rintro _ _ ⟨rfl, rfl⟩
            change Y _ _ _ _ _ [.int _] _ _
            refine Y_iret 53 rfl rfl rfl ⟨rfl, ?_⟩
            refine ⟨?_, ?_, fun a ha => by show ur_ _ _ _ a = _; rw [ur_ne (by omega)]⟩
            · unfold sp_lay
              rw [cI_t (show laC _ _ _ _ from ⟨⟨⟨l, hl, rfl⟩, ⟨f, hf, rfl⟩⟩, ⟨g, hg, rfl⟩, ⟨s, hs, rfl⟩⟩), nv_nI (k := s) (by omega), nv_nI (k := l) (by omega), cI_f h38, if_neg (by omega)]
              refine congrArg (fun q => some (Value.int (nI q))) (cnt_congr _ (fun i hi => ?_))
              rw [lay_at hi]
            · unfold st_lay
              rw [cI_t ⟨(show laC _ _ _ _ from ⟨⟨⟨l, hl, rfl⟩, ⟨f, hf, rfl⟩⟩, ⟨g, hg, rfl⟩, ⟨s, hs, rfl⟩⟩), by rw [nv_nI (by omega)]; exact h38, by rw [nv_nI (by omega), nv_nI (by omega)]; omega⟩, nv_nI (k := s) (by omega), nv_nI (k := l) (by omega), nv_nI (k := f) (by omega), nv_nI (k := g) (by omega)]
              exact RC_lay h w hl hf hg
          · refine Y_ldc 33 rfl (pc2 := 68) rfl kc_gh_141 ?_
            refine Y_iret 34 rfl rfl rfl ⟨rfl, ?_⟩
            exact pc_bad h (by unfold sp_lay; rw [cI_t (show laC _ _ _ _ from ⟨⟨⟨l, hl, rfl⟩, ⟨f, hf, rfl⟩⟩, ⟨g, hg, rfl⟩, ⟨s, hs, rfl⟩⟩), nv_nI (k := s) (by omega), nv_nI (k := l) (by omega), cI_f h38, if_pos (by omega)]; rfl) (by unfold st_lay; rw [cI_f (fun e => e.2.2 (by rw [nv_nI (by omega), nv_nI (by omega)]; omega))])
        · refine Y_ldc 20 rfl (pc2 := 43) rfl kc_gh_134 ?_
          refine Y_iret 21 rfl rfl rfl ⟨rfl, ?_⟩
          exact pc_bad h (by unfold sp_lay; rw [cI_t (show laC _ _ _ _ from ⟨⟨⟨l, hl, rfl⟩, ⟨f, hf, rfl⟩⟩, ⟨g, hg, rfl⟩, ⟨s, hs, rfl⟩⟩), nv_nI (k := s) (by omega), cI_t h38]; rfl) (by unfold st_lay; rw [cI_f (fun e => e.2.1 (by rw [nv_nI (by omega)]; exact h38))])
      · refine Y_ldc 12 rfl (pc2 := 27) rfl kc_gh_75 ?_
        refine Y_iret 13 rfl rfl rfl ⟨rfl, ?_⟩
        first | exact pc_bad h (by unfold sp_lay; rw [cI_f (fun e => h5 e.1)]; rfl) (by unfold st_lay; rw [cI_f (fun e => h5 e.1.1)]) | exact pc_bad h (by unfold sp_lay; rw [cI_f (fun e => h13 e.2.1)]; rfl) (by unfold st_lay; rw [cI_f (fun e => h13 e.1.2.1)]) | exact pc_bad h (by unfold sp_lay; rw [cI_f (fun e => h22 e.2.2)]; rfl) (by unfold st_lay; rw [cI_f (fun e => h22 e.1.2.2)])

def psh (S : Mm) (v : Int32) : Mm := uw_ (uw_ S 164 (tpd S) v) 153 12 (nI (tpd S + 1))
def mb (x : Int32) (k : Nat) : Int32 := (x >>> (nI (8 * k) &&& 31)) &&& nI 255
def pshs (x : Int32) : Nat → Mm → Mm
  | 0, S => S
  | k + 1, S => pshs x k (psh S (mb x k))
set_option maxHeartbeats 400000 in
theorem psh_t {S : Mm} {v : Int32} (h : tpd S < 64) : tpd (psh S v) = tpd S + 1 := by
  show nv (uw_ _ _ _ _ 153 12) = _
  rw [uw_same, nv_nI (by omega)]

set_option maxHeartbeats 400000 in
theorem RC_psh {m S : Mm} (h : RC m S) (ht : tpd S < 64) {v w : Int32} (hv : w = v.toInt8.toInt32) : RC (uw_ (uw_ m 2 (tpd S) w) 1 1 (nI (tpd S + 1))) (psh S v) := by
  refine ⟨fun c hc => ?_, fun c b hc hb => ?_, fun c b hc hb => ?_, fun c b hc hb => ?_, fun c b hc hb => ?_, fun l hl => ?_, fun l f g s hl hf hg hs => ?_, fun l f s hl hf hs => ?_, fun l k hl hk => ?_, ?_, fun p hp => ?_, fun p hp => ?_, fun p hp => ?_, fun r hr => ?_, ?_, ?_, fun i hi => ?_, fun s hs => ?_, fun s i hs hi => ?_⟩
  · (repeat rw [uw_ne (by omega)]); exact h.b c hc
  · (repeat rw [uw_ne (by omega)]); exact h.n c b hc hb
  · (repeat rw [uw_ne (by omega)]); exact h.g c b hc hb
  · (repeat rw [uw_ne (by omega)]); exact h.t c b hc hb
  · (repeat rw [uw_ne (by omega)]); exact h.u c b hc hb
  · (repeat rw [uw_ne (by omega)]); exact h.l l hl
  · (repeat rw [uw_ne (by omega)]); exact h.r l f g s hl hf hg hs
  · (repeat rw [uw_ne (by omega)]); exact h.m l f s hl hf hs
  · (repeat rw [uw_ne (by omega)]); exact h.us l k hl hk
  · (repeat rw [uw_ne (by omega)]); exact h.p 
  · (repeat rw [uw_ne (by omega)]); exact h.c p hp
  · (repeat rw [uw_ne (by omega)]); exact h.pt p hp
  · (repeat rw [uw_ne (by omega)]); exact h.pl p hp
  · (repeat rw [uw_ne (by omega)]); exact h.sg r hr
  · (repeat rw [uw_ne (by omega)]); exact h.sn 
  · rw [uw_same]; show _ = uw_ _ _ _ _ 153 12; rw [uw_same]
  · show _ = (uw_ _ 153 12 _ 164 i).toInt8.toInt32
    by_cases e : i = tpd S
    · rw [e, uw_ne (by omega), uw_same, uw_ne (by omega), uw_same]; exact hv
    · rw [uw_ne (by omega), uw_ne (by omega), uw_ne (by omega), uw_ne (by omega)]; exact h.tv i hi
  · (repeat rw [uw_ne (by omega)]); exact h.sp s hs
  · (repeat rw [uw_ne (by omega)]); exact h.sb s i hs hi

set_option maxHeartbeats 400000 in
theorem WF_psh {S : Mm} (w : WF S) {v : Int32} (ht : tpd S < 64) (hv : iR v 256) : WF (psh S v) := by
  refine ⟨fun c hc => ?_, fun i hi => ?_, fun i hi => ?_, fun i hi => ?_, fun i hi => ?_, fun l k hl hk => ?_, ?_, fun p hp => ?_, fun p hp => ?_, fun p hp => ?_, fun p hp => ?_, fun r hr => ?_, ?_, fun i hi => ?_, fun s hs => ?_, fun i hi => ?_, ?_⟩
  · exact w.b c hc
  · exact w.n i hi
  · exact w.g i hi
  · exact w.s i hi
  · exact w.m i hi
  · exact w.u l k hl hk
  · exact w.p 
  · exact w.c p hp
  · exact w.t p hp
  · exact w.t1 p hp
  · exact w.l p hp
  · exact w.r r hr
  · rw [psh_t ht]; exact ⟨by show uw_ _ _ _ _ 153 12 = _; rw [uw_same], by omega⟩
  · show iR (uw_ _ 153 12 _ 164 i) 256
    by_cases e : i = tpd S
    · rw [e, uw_ne (by omega), uw_same]; exact hv
    · rw [uw_ne (by omega), uw_ne (by omega)]; exact w.tv i hi
  · exact w.pl s hs
  · exact w.k i hi
  · exact w.sg 

set_option maxHeartbeats 400000 in
theorem mb_iR {x : Int32} {k : Nat} : iR (mb x k) 256 := by
  unfold mb
  generalize x >>> (nI (8 * k) &&& 31) = y
  have h0 : ¬ (y &&& nI 255) < 0 ∧ (y &&& nI 255) ≤ nI 255 := by
    have e : (y &&& nI 255).toBitVec = y.toBitVec &&& 255#32 := rfl
    have hb : (y &&& nI 255).toBitVec.toNat ≤ 255 := by
      rw [e, BitVec.toNat_and]
      exact Nat.and_le_right
    have hi : (y &&& nI 255).toInt = ((y &&& nI 255).toBitVec.toNat : Int) := by
      show (y &&& nI 255).toBitVec.toInt = _
      rw [BitVec.toInt_eq_toNat_of_lt (by omega)]
    refine ⟨fun q => ?_, ?_⟩
    · have := Int32.lt_iff_toInt_lt.mp q
      rw [hi] at this
      have z : (0 : Int32).toInt = 0 := by decide
      omega
    · rw [Int32.le_iff_toInt_le, hi, nI_toInt (by decide)]
      omega
  exact (iR_le (by decide)).mpr h0
set_option maxHeartbeats 400000 in
theorem by_low (y : Int32) : (y &&& 255).toInt8 = y.toInt8 := by
  apply Int8.toBitVec_inj.mp
  rw [Int32.toBitVec_toInt8, Int32.toBitVec_toInt8, Int32.toBitVec_and]
  apply BitVec.eq_of_getLsbD_eq
  intro i hi
  have e : (255 : Int32).toBitVec = 255#32 := rfl
  rw [e, BitVec.getLsbD_signExtend, BitVec.getLsbD_signExtend, BitVec.getLsbD_and]
  have h8 : i = 0 ∨ i = 1 ∨ i = 2 ∨ i = 3 ∨ i = 4 ∨ i = 5 ∨ i = 6 ∨ i = 7 := by omega
  rcases h8 with rfl | rfl | rfl | rfl | rfl | rfl | rfl | rfl <;> simp
set_option maxHeartbeats 400000 in
theorem mb_by {x : Int32} {k : Nat} : (x >>> (nI (8 * k) &&& 31)).toInt8.toInt32 = (mb x k).toInt8.toInt32 := by
  unfold mb
  rw [show nI 255 = 255 from rfl, by_low]
set_option maxHeartbeats 400000 in
theorem WF_pshs {x : Int32} : ∀ k (S : Mm), WF S → tpd S + k ≤ 64 → WF (pshs x k S) ∧ tpd (pshs x k S) = tpd S + k
  | 0, S, w, _ => ⟨w, rfl⟩
  | k + 1, S, w, h => by
    have a := WF_pshs (x := x) k (psh S (mb x k)) (WF_psh w (by omega) mb_iR) (by rw [psh_t (by omega)]; omega)
    rw [psh_t (by omega)] at a
    exact ⟨a.1, by rw [show pshs x (k + 1) S = pshs x k (psh S (mb x k)) from rfl, a.2]; omega⟩
def pF_ (m S : Mm) : Option Value → Mm → Prop := fun v m' => v = none ∧ RC m' S ∧ ∀ a, 153 ≤ a → m' a = m a
set_option maxHeartbeats 400000 in
theorem AW_0 {G : Nat × (Nat → Int32)} {m S : Mm} (h : RC m S) {x : Int32} : Y G M_ta_addWord (0, 0) 3 [some (.ref 1), some (.int x), some (.int (-8))] [] (LAY, m) (qm_ LAY (pF_ m S)) := by
  refine Y_iload_n 2 rfl (pc2 := 4) rfl rfl ?_
  refine Y_if_lt 3 rfl (pc2 := 7) rfl (tgt := 45) (by decide) (fun h4 => ?_) (fun h4 => ?_)
  · refine Y_vret 25 rfl rfl ⟨rfl, ?_⟩
    exact ⟨rfl, h, fun _ _ => rfl⟩
  · exact absurd (by decide) h4

set_option maxHeartbeats 400000 in
theorem AW_1 {G : Nat × (Nat → Int32)} {m S : Mm} (h : RC m S) (w : WF S) {x : Int32} (ht : tpd S + 1 ≤ 64) : Y G M_ta_addWord (0, 0) 3 [some (.ref 1), some (.int x), some (.int (nI 0))] [] (LAY, m) (qm_ LAY (pF_ m (pshs x 1 S))) := by
  refine Y_iload_n 2 rfl (pc2 := 4) rfl rfl ?_
  refine Y_if_ltn 3 rfl (pc2 := 7) rfl (tgt := 45) (by decide) (by omega) ?_
  refine Y_aload_n 4 rfl (pc2 := 8) rfl rfl ?_
  refine Y_getI 5 rfl (pc2 := 11) rfl fl_ta_15 ly_ta (by decide) rfl ?_
  refine Y_top (h.tp.trans w.tp.1) ?_
  refine Y_bipush 6 rfl (pc2 := 13) rfl (v := nI 64) (by decide) ?_
  refine Y_icmp_gen 7 rfl (pc2 := 16) rfl (tgt := 45) (by decide) (by omega) (by omega) (fun h13 => ?_) (fun h13 => ?_)
  · omega
  · refine Y_aload_n 8 rfl (pc2 := 17) rfl rfl ?_
    refine Y_getR 9 rfl (pc2 := 20) rfl fl_ta_9 ly_ta (by decide) rfl rfl (by omega) ?_
    refine Y_aload_n 10 rfl (pc2 := 21) rfl rfl ?_
    refine Y_getI 11 rfl (pc2 := 24) rfl fl_ta_15 ly_ta (by decide) rfl ?_
    refine Y_top (h.tp.trans w.tp.1) ?_
    refine Y_iload_n 12 rfl (pc2 := 25) rfl rfl ?_
    refine Y_iload_n 13 rfl (pc2 := 26) rfl rfl ?_
    refine Y_ishr 14 rfl (pc2 := 27) rfl ?_
    refine Y_i2b 15 rfl (pc2 := 28) rfl rfl ?_
    refine Y_bast 16 rfl (pc2 := 29) rfl ly_taB rfl (by omega) (by decide) (pk_vb _) ?_
    refine Y_aload_n 17 rfl (pc2 := 30) rfl rfl ?_
    refine Y_dup 18 rfl (pc2 := 31) rfl rfl ?_
    refine Y_getI 19 rfl (pc2 := 34) rfl fl_ta_15 ly_ta (by decide) rfl ?_
    refine Y_top ((uw_ne (by omega)).trans (h.tp.trans w.tp.1)) ?_
    refine Y_iconst 20 rfl (pc2 := 35) rfl (v := nI 1) (by decide) ?_
    refine Y_iadd 21 rfl (pc2 := 36) rfl ?_
    refine Y_top (nI_add _ _) ?_
    refine Y_putI 22 rfl (pc2 := 39) rfl fl_ta_15 ly_ta (by decide) ⟨rfl, rfl⟩ ⟨_, _, _, rfl, rfl⟩ rfl ?_
    refine Y_iinc 23 rfl (pc2 := 42) rfl rfl rfl (ls2 := [some (.ref _), some (.int _), some (.int _)]) rfl ?_
    refine Y_goto 24 rfl (pc2 := 3) (by decide) ?_
    have hp := RC_psh h (by omega) (mb_by (x := x) (k := 0))
    refine Y_ls (ls2 := [some (.ref 1), some (.int x), some (.int (-8))]) (by rw [show nI 0 + Int32.ofInt (-8) = -8 by decide]) ?_
    exact (AW_0 hp).mono (fun v σ hq => ⟨hq.1, hq.2.1, hq.2.2.1, fun a ha => (hq.2.2.2 a ha).trans (funext fun j => by rw [uw_ne (by omega), uw_ne (by omega)])⟩)

set_option maxHeartbeats 400000 in
theorem AW_2 {G : Nat × (Nat → Int32)} {m S : Mm} (h : RC m S) (w : WF S) {x : Int32} (ht : tpd S + 2 ≤ 64) : Y G M_ta_addWord (0, 0) 3 [some (.ref 1), some (.int x), some (.int (nI 8))] [] (LAY, m) (qm_ LAY (pF_ m (pshs x 2 S))) := by
  refine Y_iload_n 2 rfl (pc2 := 4) rfl rfl ?_
  refine Y_if_ltn 3 rfl (pc2 := 7) rfl (tgt := 45) (by decide) (by omega) ?_
  refine Y_aload_n 4 rfl (pc2 := 8) rfl rfl ?_
  refine Y_getI 5 rfl (pc2 := 11) rfl fl_ta_15 ly_ta (by decide) rfl ?_
  refine Y_top (h.tp.trans w.tp.1) ?_
  refine Y_bipush 6 rfl (pc2 := 13) rfl (v := nI 64) (by decide) ?_
  refine Y_icmp_gen 7 rfl (pc2 := 16) rfl (tgt := 45) (by decide) (by omega) (by omega) (fun h13 => ?_) (fun h13 => ?_)
  · omega
  · refine Y_aload_n 8 rfl (pc2 := 17) rfl rfl ?_
    refine Y_getR 9 rfl (pc2 := 20) rfl fl_ta_9 ly_ta (by decide) rfl rfl (by omega) ?_
    refine Y_aload_n 10 rfl (pc2 := 21) rfl rfl ?_
    refine Y_getI 11 rfl (pc2 := 24) rfl fl_ta_15 ly_ta (by decide) rfl ?_
    refine Y_top (h.tp.trans w.tp.1) ?_
    refine Y_iload_n 12 rfl (pc2 := 25) rfl rfl ?_
    refine Y_iload_n 13 rfl (pc2 := 26) rfl rfl ?_
    refine Y_ishr 14 rfl (pc2 := 27) rfl ?_
    refine Y_i2b 15 rfl (pc2 := 28) rfl rfl ?_
    refine Y_bast 16 rfl (pc2 := 29) rfl ly_taB rfl (by omega) (by decide) (pk_vb _) ?_
    refine Y_aload_n 17 rfl (pc2 := 30) rfl rfl ?_
    refine Y_dup 18 rfl (pc2 := 31) rfl rfl ?_
    refine Y_getI 19 rfl (pc2 := 34) rfl fl_ta_15 ly_ta (by decide) rfl ?_
    refine Y_top ((uw_ne (by omega)).trans (h.tp.trans w.tp.1)) ?_
    refine Y_iconst 20 rfl (pc2 := 35) rfl (v := nI 1) (by decide) ?_
    refine Y_iadd 21 rfl (pc2 := 36) rfl ?_
    refine Y_top (nI_add _ _) ?_
    refine Y_putI 22 rfl (pc2 := 39) rfl fl_ta_15 ly_ta (by decide) ⟨rfl, rfl⟩ ⟨_, _, _, rfl, rfl⟩ rfl ?_
    refine Y_iinc 23 rfl (pc2 := 42) rfl rfl rfl (ls2 := [some (.ref _), some (.int _), some (.int _)]) rfl ?_
    refine Y_goto 24 rfl (pc2 := 3) (by decide) ?_
    have hp := RC_psh h (by omega) (mb_by (x := x) (k := 1))
    refine Y_ls (ls2 := [some (.ref 1), some (.int x), some (.int (nI 0))]) (by rw [show nI 8 + Int32.ofInt (-8) = nI 0 by decide]) ?_
    exact (AW_1 hp (WF_psh w (by omega) mb_iR) (by rw [psh_t (by omega)]; omega)).mono (fun v σ hq => ⟨hq.1, hq.2.1, hq.2.2.1, fun a ha => (hq.2.2.2 a ha).trans (funext fun j => by rw [uw_ne (by omega), uw_ne (by omega)])⟩)

set_option maxHeartbeats 400000 in
theorem AW_3 {G : Nat × (Nat → Int32)} {m S : Mm} (h : RC m S) (w : WF S) {x : Int32} (ht : tpd S + 3 ≤ 64) : Y G M_ta_addWord (0, 0) 3 [some (.ref 1), some (.int x), some (.int (nI 16))] [] (LAY, m) (qm_ LAY (pF_ m (pshs x 3 S))) := by
  refine Y_iload_n 2 rfl (pc2 := 4) rfl rfl ?_
  refine Y_if_ltn 3 rfl (pc2 := 7) rfl (tgt := 45) (by decide) (by omega) ?_
  refine Y_aload_n 4 rfl (pc2 := 8) rfl rfl ?_
  refine Y_getI 5 rfl (pc2 := 11) rfl fl_ta_15 ly_ta (by decide) rfl ?_
  refine Y_top (h.tp.trans w.tp.1) ?_
  refine Y_bipush 6 rfl (pc2 := 13) rfl (v := nI 64) (by decide) ?_
  refine Y_icmp_gen 7 rfl (pc2 := 16) rfl (tgt := 45) (by decide) (by omega) (by omega) (fun h13 => ?_) (fun h13 => ?_)
  · omega
  · refine Y_aload_n 8 rfl (pc2 := 17) rfl rfl ?_
    refine Y_getR 9 rfl (pc2 := 20) rfl fl_ta_9 ly_ta (by decide) rfl rfl (by omega) ?_
    refine Y_aload_n 10 rfl (pc2 := 21) rfl rfl ?_
    refine Y_getI 11 rfl (pc2 := 24) rfl fl_ta_15 ly_ta (by decide) rfl ?_
    refine Y_top (h.tp.trans w.tp.1) ?_
    refine Y_iload_n 12 rfl (pc2 := 25) rfl rfl ?_
    refine Y_iload_n 13 rfl (pc2 := 26) rfl rfl ?_
    refine Y_ishr 14 rfl (pc2 := 27) rfl ?_
    refine Y_i2b 15 rfl (pc2 := 28) rfl rfl ?_
    refine Y_bast 16 rfl (pc2 := 29) rfl ly_taB rfl (by omega) (by decide) (pk_vb _) ?_
    refine Y_aload_n 17 rfl (pc2 := 30) rfl rfl ?_
    refine Y_dup 18 rfl (pc2 := 31) rfl rfl ?_
    refine Y_getI 19 rfl (pc2 := 34) rfl fl_ta_15 ly_ta (by decide) rfl ?_
    refine Y_top ((uw_ne (by omega)).trans (h.tp.trans w.tp.1)) ?_
    refine Y_iconst 20 rfl (pc2 := 35) rfl (v := nI 1) (by decide) ?_
    refine Y_iadd 21 rfl (pc2 := 36) rfl ?_
    refine Y_top (nI_add _ _) ?_
    refine Y_putI 22 rfl (pc2 := 39) rfl fl_ta_15 ly_ta (by decide) ⟨rfl, rfl⟩ ⟨_, _, _, rfl, rfl⟩ rfl ?_
    refine Y_iinc 23 rfl (pc2 := 42) rfl rfl rfl (ls2 := [some (.ref _), some (.int _), some (.int _)]) rfl ?_
    refine Y_goto 24 rfl (pc2 := 3) (by decide) ?_
    have hp := RC_psh h (by omega) (mb_by (x := x) (k := 2))
    refine Y_ls (ls2 := [some (.ref 1), some (.int x), some (.int (nI 8))]) (by rw [show nI 16 + Int32.ofInt (-8) = nI 8 by decide]) ?_
    exact (AW_2 hp (WF_psh w (by omega) mb_iR) (by rw [psh_t (by omega)]; omega)).mono (fun v σ hq => ⟨hq.1, hq.2.1, hq.2.2.1, fun a ha => (hq.2.2.2 a ha).trans (funext fun j => by rw [uw_ne (by omega), uw_ne (by omega)])⟩)

set_option maxHeartbeats 400000 in
theorem AW_4 {G : Nat × (Nat → Int32)} {m S : Mm} (h : RC m S) (w : WF S) {x : Int32} (ht : tpd S + 4 ≤ 64) : Y G M_ta_addWord (0, 0) 3 [some (.ref 1), some (.int x), some (.int (nI 24))] [] (LAY, m) (qm_ LAY (pF_ m (pshs x 4 S))) := by
  refine Y_iload_n 2 rfl (pc2 := 4) rfl rfl ?_
  refine Y_if_ltn 3 rfl (pc2 := 7) rfl (tgt := 45) (by decide) (by omega) ?_
  refine Y_aload_n 4 rfl (pc2 := 8) rfl rfl ?_
  refine Y_getI 5 rfl (pc2 := 11) rfl fl_ta_15 ly_ta (by decide) rfl ?_
  refine Y_top (h.tp.trans w.tp.1) ?_
  refine Y_bipush 6 rfl (pc2 := 13) rfl (v := nI 64) (by decide) ?_
  refine Y_icmp_gen 7 rfl (pc2 := 16) rfl (tgt := 45) (by decide) (by omega) (by omega) (fun h13 => ?_) (fun h13 => ?_)
  · omega
  · refine Y_aload_n 8 rfl (pc2 := 17) rfl rfl ?_
    refine Y_getR 9 rfl (pc2 := 20) rfl fl_ta_9 ly_ta (by decide) rfl rfl (by omega) ?_
    refine Y_aload_n 10 rfl (pc2 := 21) rfl rfl ?_
    refine Y_getI 11 rfl (pc2 := 24) rfl fl_ta_15 ly_ta (by decide) rfl ?_
    refine Y_top (h.tp.trans w.tp.1) ?_
    refine Y_iload_n 12 rfl (pc2 := 25) rfl rfl ?_
    refine Y_iload_n 13 rfl (pc2 := 26) rfl rfl ?_
    refine Y_ishr 14 rfl (pc2 := 27) rfl ?_
    refine Y_i2b 15 rfl (pc2 := 28) rfl rfl ?_
    refine Y_bast 16 rfl (pc2 := 29) rfl ly_taB rfl (by omega) (by decide) (pk_vb _) ?_
    refine Y_aload_n 17 rfl (pc2 := 30) rfl rfl ?_
    refine Y_dup 18 rfl (pc2 := 31) rfl rfl ?_
    refine Y_getI 19 rfl (pc2 := 34) rfl fl_ta_15 ly_ta (by decide) rfl ?_
    refine Y_top ((uw_ne (by omega)).trans (h.tp.trans w.tp.1)) ?_
    refine Y_iconst 20 rfl (pc2 := 35) rfl (v := nI 1) (by decide) ?_
    refine Y_iadd 21 rfl (pc2 := 36) rfl ?_
    refine Y_top (nI_add _ _) ?_
    refine Y_putI 22 rfl (pc2 := 39) rfl fl_ta_15 ly_ta (by decide) ⟨rfl, rfl⟩ ⟨_, _, _, rfl, rfl⟩ rfl ?_
    refine Y_iinc 23 rfl (pc2 := 42) rfl rfl rfl (ls2 := [some (.ref _), some (.int _), some (.int _)]) rfl ?_
    refine Y_goto 24 rfl (pc2 := 3) (by decide) ?_
    have hp := RC_psh h (by omega) (mb_by (x := x) (k := 3))
    refine Y_ls (ls2 := [some (.ref 1), some (.int x), some (.int (nI 16))]) (by rw [show nI 24 + Int32.ofInt (-8) = nI 16 by decide]) ?_
    exact (AW_3 hp (WF_psh w (by omega) mb_iR) (by rw [psh_t (by omega)]; omega)).mono (fun v σ hq => ⟨hq.1, hq.2.1, hq.2.2.1, fun a ha => (hq.2.2.2 a ha).trans (funext fun j => by rw [uw_ne (by omega), uw_ne (by omega)])⟩)

set_option maxHeartbeats 400000 in
theorem T_ta_addWord {G : Nat × (Nat → Int32)} {m : Mm} {S : Mm} (h : RC m S) (w : WF S) {x : Int32} (ht : tpd S + 4 ≤ 64) : Y G M_ta_addWord (0, 0) 0 (en_ M_ta_addWord [.ref (1), .int (x)]) [] (LAY, m) (qm_ LAY (pF_ m (pshs x 4 S))) := by
  change Y _ _ _ _ [some (.ref _), some (.int _), none] _ _ _
  refine Y_bipush 0 rfl (pc2 := 2) rfl (v := nI 24) (by decide) ?_
  refine Y_istore_n 1 rfl (pc2 := 3) rfl (Nat.le_of_ble_eq_true rfl) (ls2 := [some (.ref _), some (.int _), some (.int _)]) rfl ?_
  exact AW_4 h w ht

noncomputable def st_feed (S : Mm) (a b c : Int32) : Mm := cI (tpd S + 12 ≤ 64) (pshs c 4 (pshs b 4 (pshs a 4 S))) S
noncomputable def sp_feed (S : Mm) : Int32 := cI (tpd S + 12 ≤ 64) (nI (tpd S + 12)) FULL_

set_option maxHeartbeats 400000 in
theorem T_gh_feed {G : Nat × (Nat → Int32)} {m : Mm} {S : Mm} (h : RC m S) (w : WF S) {a b c : Int32} : Y G M_gh_feed (0, 0) 0 (en_ M_gh_feed [.ref (0), .int (a), .int (b), .int (c)]) [] (LAY, m) (qm_ LAY (pc_ (sp_feed S) m (st_feed S a b c))) := by
  change Y _ _ _ _ [some (.ref _), some (.int _), some (.int _), some (.int _)] _ _ _
  have ht := w.tp.2
  refine Y_aload_n 0 rfl (pc2 := 1) rfl rfl ?_
  refine Y_getR 1 rfl (pc2 := 4) rfl fl_gh_10 ly_gh (by decide) rfl rfl (by omega) ?_
  refine Y_getI 2 rfl (pc2 := 7) rfl fl_gh_67 ly_ta (by decide) rfl ?_
  refine Y_top (h.tp.trans w.tp.1) ?_
  refine Y_bipush 3 rfl (pc2 := 9) rfl (v := nI 12) (by decide) ?_
  refine Y_iadd 4 rfl (pc2 := 10) rfl ?_
  refine Y_top (nI_add _ _) ?_
  refine Y_bipush 5 rfl (pc2 := 12) rfl (v := nI 64) (by decide) ?_
  refine Y_icmp_len 6 rfl (pc2 := 15) rfl (tgt := 18) (by decide) (by omega) (by omega) (fun h12 => ?_) (fun h12 => ?_)
  · have w1 := (WF_pshs (x := a) 4 S w (by omega)).1
    have t1 := (WF_pshs (x := a) 4 S w (by omega)).2
    have w2 := (WF_pshs (x := b) 4 _ w1 (by omega)).1
    have t2 := (WF_pshs (x := b) 4 _ w1 (by omega)).2
    have t3 := (WF_pshs (x := c) 4 _ w2 (by omega)).2
    refine Y_aload_n 9 rfl (pc2 := 19) rfl rfl ?_
    refine Y_getR 10 rfl (pc2 := 22) rfl fl_gh_10 ly_gh (by decide) rfl rfl (by omega) ?_
    refine Y_iload_n 11 rfl (pc2 := 23) rfl rfl ?_
    refine Y_cV 12 rfl (pc2 := 26) rfl ok_ta_addWord lk_gh_72 vi_ta_addWord ly_ta rfl (by decide) rfl (as := [.int _]) (rest := []) rfl rfl (T_ta_addWord h w (by omega)) ?_
    rintro _ m1 ⟨rfl, r1, f1⟩
    change Y _ _ _ _ _ [] _ _
    refine Y_aload_n 13 rfl (pc2 := 27) rfl rfl ?_
    refine Y_getR 14 rfl (pc2 := 30) rfl fl_gh_10 ly_gh (by decide) rfl rfl (by omega) ?_
    refine Y_iload_n 15 rfl (pc2 := 31) rfl rfl ?_
    refine Y_cV 16 rfl (pc2 := 34) rfl ok_ta_addWord lk_gh_72 vi_ta_addWord ly_ta rfl (by decide) rfl (as := [.int _]) (rest := []) rfl rfl (T_ta_addWord r1 w1 (by omega)) ?_
    rintro _ m2 ⟨rfl, r2, f2⟩
    change Y _ _ _ _ _ [] _ _
    refine Y_aload_n 17 rfl (pc2 := 35) rfl rfl ?_
    refine Y_getR 18 rfl (pc2 := 38) rfl fl_gh_10 ly_gh (by decide) rfl rfl (by omega) ?_
    refine Y_iload_n 19 rfl (pc2 := 39) rfl rfl ?_
    refine Y_cV 20 rfl (pc2 := 42) rfl ok_ta_addWord lk_gh_72 vi_ta_addWord ly_ta rfl (by decide) rfl (as := [.int _]) (rest := []) rfl rfl (T_ta_addWord r2 w2 (by omega)) ?_
    rintro _ m3 ⟨rfl, r3, f3⟩
    change Y _ _ _ _ _ [] _ _
    refine Y_aload_n 21 rfl (pc2 := 43) rfl rfl ?_
    refine Y_getR 22 rfl (pc2 := 46) rfl fl_gh_10 ly_gh (by decide) rfl rfl (by omega) ?_
    refine Y_getI 23 rfl (pc2 := 49) rfl fl_gh_67 ly_ta (by decide) rfl ?_
    refine Y_top (r3.tp.trans ((WF_pshs 4 _ w2 (by omega)).1.tp.1)) ?_
    refine Y_iret 24 rfl rfl rfl ⟨rfl, ?_⟩
    exact ⟨by unfold sp_feed; rw [cI_t h12, t3, t2, t1], by unfold st_feed; rw [cI_t h12]; exact r3, fun q hq => (f3 q hq).trans ((f2 q hq).trans (f1 q hq))⟩
  · refine Y_ldc 7 rfl (pc2 := 17) rfl kc_gh_71 ?_
    refine Y_iret 8 rfl rfl rfl ⟨rfl, ?_⟩
    exact pc_bad h (by unfold sp_feed; rw [cI_f h12]; rfl) (by unfold st_feed; rw [cI_f h12])
