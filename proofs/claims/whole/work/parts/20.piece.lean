/-! the class: parts, signals, sheets -/
def flr (row : Nat → Int32) (n : Nat) (v : Int32) : Nat → Int32 := fun k => if k < n then v else row k
set_option maxHeartbeats 400000 in
theorem flr_s {m : Mm} {a i : Nat} {v : Int32} : uw_ (ur_ m a (flr (m a) i v)) a i v = ur_ m a (flr (m a) (i + 1) v) := by
  funext b k
  by_cases hb : b = a
  · subst hb
    by_cases hk : k = i
    · subst hk
      rw [uw_same]
      simp [ur_, flr]
    · rw [uw_ne (by omega)]
      simp only [ur_, flr, if_true]
      by_cases h1 : k < i
      · rw [if_pos h1, if_pos (by omega)]
      · rw [if_neg h1, if_neg (by omega)]
  · rw [uw_ne (by omega)]
    simp [ur_, hb]
set_option maxHeartbeats 400000 in
theorem flr_0 {m : Mm} {a : Nat} {v : Int32} : m = ur_ m a (flr (m a) 0 v) := by
  funext b k
  by_cases hb : b = a
  · subst hb; simp [ur_, flr]
  · simp [ur_, hb]
set_option maxHeartbeats 400000 in
theorem ur_same {m : Mm} {a k : Nat} {row : Nat → Int32} : ur_ m a row a k = row k := by simp [ur_]
set_option maxHeartbeats 400000 in
theorem ur_ne {m : Mm} {a b : Nat} {row : Nat → Int32} (h : ¬ b = a) : ur_ m a row b = m b := by simp [ur_, h]
def pf_ (m : Mm) : Option Value → Mm → Prop := fun v m' => v = none ∧ m = m'

set_option maxHeartbeats 400000 in
theorem L_ar_filli {G : Nat × (Nat → Int32)} {lay : Ly} {m : Mm} {a L : Nat} {v : Int32} (ha : lay[a]? = some (12, L, [])) (hL : L < 2 ^ 31)  : ∀ i, i ≤ L → Y G M_ar_filli (0, 0) 5 [some (.ref a), some (.int v), some (.int (nI i)), some (.int (nI L))] [] (lay, ur_ m a (flr (m a) i v)) (qm_ lay (pf_ (ur_ m a (flr (m a) L v)))) := by
  refine ind_ (fun i hi ih => ?_)
  refine Y_iload_n 5 rfl (pc2 := 6) rfl rfl ?_
  refine Y_iload_n 6 rfl (pc2 := 7) rfl rfl ?_
  refine Y_icmp_gen 7 rfl (pc2 := 10) rfl (tgt := 20) (by decide) (by omega) (by omega) (fun h7 => ?_) (fun h7 => ?_)
  · refine Y_vret 14 rfl rfl ⟨rfl, ?_⟩
    exact ⟨rfl, by rw [show i = L by omega]⟩
  · refine Y_aload_n 8 rfl (pc2 := 11) rfl rfl ?_
    refine Y_iload_n 9 rfl (pc2 := 12) rfl rfl ?_
    refine Y_iload_n 10 rfl (pc2 := 13) rfl rfl ?_
    refine Y_iast 11 rfl (pc2 := 14) rfl ha rfl (by omega) hL rfl ?_
    refine Y_iinc 12 rfl (pc2 := 17) rfl rfl (nI_inc _ 1) (ls2 := [some (.ref _), some (.int _), some (.int _), some (.int _)]) rfl ?_
    refine Y_goto 13 rfl (pc2 := 5) (by decide) ?_
    exact Y_mem flr_s (ih (i + 1) (by omega) (by omega))

set_option maxHeartbeats 400000 in
theorem T_ar_filli {G : Nat × (Nat → Int32)} {lay : Ly} {m : Mm} {a L : Nat} {v : Int32} (ha : lay[a]? = some (12, L, [])) (hL : L < 2 ^ 31)  : Y G M_ar_filli (0, 0) 0 (en_ M_ar_filli [.ref a, .int v]) [] (lay, m) (qm_ lay (pf_ (ur_ m a (flr (m a) L v)))) := by
  change Y _ _ _ _ [some (.ref _), some (.int _), none, none] _ _ _
  refine Y_iconst 0 rfl (pc2 := 1) rfl (v := nI 0) (by decide) ?_
  refine Y_istore_n 1 rfl (pc2 := 2) rfl (Nat.le_of_ble_eq_true rfl) (ls2 := [some (.ref _), some (.int _), some (.int _), none]) rfl ?_
  refine Y_aload_n 2 rfl (pc2 := 3) rfl rfl ?_
  refine Y_alen_i 3 rfl (pc2 := 4) rfl ha rfl ?_
  refine Y_istore_n 4 rfl (pc2 := 5) rfl (Nat.le_of_ble_eq_true rfl) (ls2 := [some (.ref _), some (.int _), some (.int _), some (.int _)]) rfl ?_
  exact Y_mem flr_0 (L_ar_filli ha hL 0 (Nat.zero_le _))

set_option maxHeartbeats 400000 in
theorem L_ar_fillb {G : Nat × (Nat → Int32)} {lay : Ly} {m : Mm} {a L : Nat} {v : Int32} (ha : lay[a]? = some (11, L, [])) (hL : L < 2 ^ 31) (hv : vp_nar .byte v = v) : ∀ i, i ≤ L → Y G M_ar_fillb (0, 0) 5 [some (.ref a), some (.int v), some (.int (nI i)), some (.int (nI L))] [] (lay, ur_ m a (flr (m a) i v)) (qm_ lay (pf_ (ur_ m a (flr (m a) L v)))) := by
  refine ind_ (fun i hi ih => ?_)
  refine Y_iload_n 5 rfl (pc2 := 6) rfl rfl ?_
  refine Y_iload_n 6 rfl (pc2 := 7) rfl rfl ?_
  refine Y_icmp_gen 7 rfl (pc2 := 10) rfl (tgt := 20) (by decide) (by omega) (by omega) (fun h7 => ?_) (fun h7 => ?_)
  · refine Y_vret 14 rfl rfl ⟨rfl, ?_⟩
    exact ⟨rfl, by rw [show i = L by omega]⟩
  · refine Y_aload_n 8 rfl (pc2 := 11) rfl rfl ?_
    refine Y_iload_n 9 rfl (pc2 := 12) rfl rfl ?_
    refine Y_iload_n 10 rfl (pc2 := 13) rfl rfl ?_
    refine Y_bast 11 rfl (pc2 := 14) rfl ha rfl (by omega) hL hv ?_
    refine Y_iinc 12 rfl (pc2 := 17) rfl rfl (nI_inc _ 1) (ls2 := [some (.ref _), some (.int _), some (.int _), some (.int _)]) rfl ?_
    refine Y_goto 13 rfl (pc2 := 5) (by decide) ?_
    exact Y_mem flr_s (ih (i + 1) (by omega) (by omega))

set_option maxHeartbeats 400000 in
theorem T_ar_fillb {G : Nat × (Nat → Int32)} {lay : Ly} {m : Mm} {a L : Nat} {v : Int32} (ha : lay[a]? = some (11, L, [])) (hL : L < 2 ^ 31) (hv : vp_nar .byte v = v) : Y G M_ar_fillb (0, 0) 0 (en_ M_ar_fillb [.ref a, .int v]) [] (lay, m) (qm_ lay (pf_ (ur_ m a (flr (m a) L v)))) := by
  change Y _ _ _ _ [some (.ref _), some (.int _), none, none] _ _ _
  refine Y_iconst 0 rfl (pc2 := 1) rfl (v := nI 0) (by decide) ?_
  refine Y_istore_n 1 rfl (pc2 := 2) rfl (Nat.le_of_ble_eq_true rfl) (ls2 := [some (.ref _), some (.int _), some (.int _), none]) rfl ?_
  refine Y_aload_n 2 rfl (pc2 := 3) rfl rfl ?_
  refine Y_alen_b 3 rfl (pc2 := 4) rfl ha rfl ?_
  refine Y_istore_n 4 rfl (pc2 := 5) rfl (Nat.le_of_ble_eq_true rfl) (ls2 := [some (.ref _), some (.int _), some (.int _), some (.int _)]) rfl ?_
  exact Y_mem flr_0 (L_ar_fillb ha hL hv 0 (Nat.zero_le _))

set_option maxHeartbeats 400000 in
theorem RC_part {m S : Mm} (h : RC m S) (w : WF S) {n : Nat} {x t l1 l2 : Int32} (hn : n < 16) (hv : l1 = oC l2) : RC (uw_ (uw_ (uw_ (uw_ m 9 n x) 10 n t) 11 n l1) 8 4 (nI (n + 1))) (uw_ (uw_ (uw_ (uw_ S 160 n x) 161 n t) 162 n l2) 153 6 (nI (n + 1))) := by
  refine ⟨fun c hc => ?_, fun c b hc hb => ?_, fun c b hc hb => ?_, fun c b hc hb => ?_, fun c b hc hb => ?_, fun l hl => ?_, fun l f g s hl hf hg hs => ?_, fun l f s hl hf hs => ?_, fun l k hl hk => ?_, ?_, fun p hp => ?_, fun p hp => ?_, fun p hp => ?_, fun r hr => ?_, ?_, ?_, fun i hi => ?_, fun s hs => ?_, fun s i hs hi => ?_⟩
  · (repeat rw [uw_ne (by omega)]); exact h.b c hc
  · (repeat rw [uw_ne (by omega)]); exact h.n c b hc hb
  · (repeat rw [uw_ne (by omega)]); exact h.g c b hc hb
  · (repeat rw [uw_ne (by omega)]); exact h.t c b hc hb
  · (repeat rw [uw_ne (by omega)]); exact h.u c b hc hb
  · (repeat rw [uw_ne (by omega)]); exact h.l l hl
  · (repeat rw [uw_ne (by omega)]); exact h.r l f g s hl hf hg hs
  · (repeat rw [uw_ne (by omega)]); exact h.m l f s hl hf hs
  · (repeat rw [uw_ne (by omega)]); exact h.us l k hl hk
  · rw [uw_same, uw_same]
  · by_cases e : p = n
    · subst e
      rw [uw_ne (by omega), uw_ne (by omega), uw_ne (by omega), uw_same, uw_ne (by omega), uw_ne (by omega), uw_ne (by omega), uw_same]
    · rw [uw_ne (by omega), uw_ne (by omega), uw_ne (by omega), uw_ne (by omega), uw_ne (by omega), uw_ne (by omega), uw_ne (by omega), uw_ne (by omega)]; exact h.c p hp
  · by_cases e : p = n
    · subst e
      rw [uw_ne (by omega), uw_ne (by omega), uw_same, uw_ne (by omega), uw_ne (by omega), uw_same]
    · rw [uw_ne (by omega), uw_ne (by omega), uw_ne (by omega), uw_ne (by omega), uw_ne (by omega), uw_ne (by omega), uw_ne (by omega), uw_ne (by omega)]; exact h.pt p hp
  · by_cases e : p = n
    · subst e
      rw [uw_ne (by omega), uw_same, uw_ne (by omega), uw_same]; exact hv
    · rw [uw_ne (by omega), uw_ne (by omega), uw_ne (by omega), uw_ne (by omega), uw_ne (by omega), uw_ne (by omega), uw_ne (by omega), uw_ne (by omega)]; exact h.pl p hp
  · (repeat rw [uw_ne (by omega)]); exact h.sg r hr
  · (repeat rw [uw_ne (by omega)]); exact h.sn 
  · (repeat rw [uw_ne (by omega)]); exact h.tp 
  · (repeat rw [uw_ne (by omega)]); exact h.tv i hi
  · (repeat rw [uw_ne (by omega)]); exact h.sp s hs
  · (repeat rw [uw_ne (by omega)]); exact h.sb s i hs hi

set_option maxHeartbeats 400000 in
theorem WF_part {S : Mm} (w : WF S) {c0 t0 : Nat} {l2 : Int32} (hn : pn S < 16) (hc0 : c0 < 4) (ht0 : 1 ≤ t0 ∧ t0 ≤ 9) (hl0 : oR l2 4) : WF (uw_ (uw_ (uw_ (uw_ S 160 (pn S) (nI c0)) 161 (pn S) (nI t0)) 162 (pn S) l2) 153 6 (nI (pn S + 1))) := by
  refine ⟨fun c hc => ?_, fun i hi => ?_, fun i hi => ?_, fun i hi => ?_, fun i hi => ?_, fun l k hl hk => ?_, ?_, fun p hp => ?_, fun p hp => ?_, fun p hp => ?_, fun p hp => ?_, fun r hr => ?_, ?_, fun i hi => ?_, fun s hs => ?_, fun i hi => ?_, ?_⟩
  · exact w.b c hc
  · exact w.n i hi
  · exact w.g i hi
  · exact w.s i hi
  · exact w.m i hi
  · exact w.u l k hl hk
  · unfold pn
    rw [uw_same, nv_nI (by unfold pn at hn; omega)]; exact ⟨rfl, by unfold pn at hn; omega⟩
  · unfold pC
    by_cases e : p = pn S
    · rw [e, uw_ne (by omega), uw_ne (by omega), uw_ne (by omega), uw_same, nv_nI (by omega)]; exact ⟨rfl, hc0⟩
    · rw [uw_ne (by omega), uw_ne (by omega), uw_ne (by omega), uw_ne (by omega)]; exact w.c p hp
  · unfold pT
    by_cases e : p = pn S
    · rw [e, uw_ne (by omega), uw_ne (by omega), uw_same, nv_nI (by omega)]; exact ⟨rfl, ht0.2⟩
    · rw [uw_ne (by omega), uw_ne (by omega), uw_ne (by omega), uw_ne (by omega)]; exact w.t p hp
  · have hp2 : p < pn S + 1 := by
      have e : pn (uw_ (uw_ (uw_ (uw_ S 160 (pn S) (nI c0)) 161 (pn S) (nI t0)) 162 (pn S) l2) 153 6 (nI (pn S + 1))) = pn S + 1 := by show nv _ = _; rw [uw_same, nv_nI (by omega)]
      rw [e] at hp; exact hp
    unfold pT
    by_cases e : p = pn S
    · rw [e, uw_ne (by omega), uw_ne (by omega), uw_same, nv_nI (by omega)]; exact ht0.1
    · rw [uw_ne (by omega), uw_ne (by omega), uw_ne (by omega), uw_ne (by omega)]; exact w.t1 p (by omega)
  · by_cases e : p = pn S
    · rw [e, uw_ne (by omega), uw_same]; exact hl0
    · rw [uw_ne (by omega), uw_ne (by omega), uw_ne (by omega), uw_ne (by omega)]; exact w.l p hp
  · exact w.r r hr
  · exact w.tp 
  · exact w.tv i hi
  · exact w.pl s hs
  · exact w.k i hi
  · exact w.sg 

def lvO (l : Int32) : Prop := l = NONE_ ∨ iR l 4
def lvM (l : Int32) : Int32 := if l = NONE_ then -1 else l
set_option maxHeartbeats 400000 in
theorem lvM_or {l : Int32} (h : lvO l) : oR (lvM l) 4 := by
  unfold lvM
  split
  · exact Or.inl rfl
  · rename_i e
    exact Or.inr (h.resolve_left e)
set_option maxHeartbeats 400000 in
theorem lvM_oC {l : Int32} (h : lvO l) : l = oC (lvM l) := by
  unfold lvM
  split
  · rename_i e; rw [e]; rfl
  · rename_i e
    exact (oC_id (iR_pos (by decide) (h.resolve_left e))).symm
def paC (x t l : Int32) : Prop := iR x 4 ∧ (nI 1 ≤ t ∧ t ≤ nI 9) ∧ lvO l
noncomputable def sp_part (S : Mm) (x t l : Int32) : Int32 := cI (paC x t l) (if pn S = 16 then FULL_ else nI (pn S + 1)) BAD_
noncomputable def st_part (S : Mm) (x t l : Int32) : Mm := cI (paC x t l ∧ ¬ pn S = 16) (uw_ (uw_ (uw_ (uw_ S 160 (pn S) x) 161 (pn S) t) 162 (pn S) (lvM l)) 153 6 (nI (pn S + 1))) S
def siC (r l : Int32) : Prop := iR r 144 ∧ lvO l
def siF (S : Mm) (r l : Int32) : Prop := S 163 (nv r) < 0 ∧ ¬ l = NONE_ ∧ sigs S = 20
noncomputable def sp_signal (S : Mm) (r l : Int32) : Int32 := cI (siC r l) (cI (siF S r l) FULL_ (oC (S 163 (nv r)))) BAD_
noncomputable def st_signal (S : Mm) (r l : Int32) : Mm := cI (siC r l ∧ ¬ siF S r l) (uw_ S 163 (nv r) (lvM l)) S

set_option maxHeartbeats 400000 in
theorem T_pi_addPart {G : Nat × (Nat → Int32)} {m : Mm} {n : Nat} {x t l : Int32} (hn : n < 16) (hm : m 8 4 = nI n) : Y G M_pi_addPart (0, 0) 0 (en_ M_pi_addPart [.ref (8), .int (x), .int (t), .int (l)]) [] (LAY, m) (qm_ LAY (pf_ (uw_ (uw_ (uw_ (uw_ m 9 n x) 10 n t) 11 n l) 8 4 (nI (n + 1))))) := by
  change Y _ _ _ _ [some (.ref _), some (.int _), some (.int _), some (.int _)] _ _ _
  refine Y_aload_n 0 rfl (pc2 := 1) rfl rfl ?_
  refine Y_getI 1 rfl (pc2 := 4) rfl fl_pi_24 ly_pi (by decide) rfl ?_
  refine Y_top hm ?_
  refine Y_bipush 2 rfl (pc2 := 6) rfl (v := nI 16) (by decide) ?_
  refine Y_icmp_gen 3 rfl (pc2 := 9) rfl (tgt := 49) (by decide) (by omega) (by omega) (fun h6 => ?_) (fun h6 => ?_)
  · refine Y_vret 28 rfl rfl ⟨rfl, ?_⟩
    first | omega | exact ⟨rfl, rfl⟩
  · refine Y_aload_n 4 rfl (pc2 := 10) rfl rfl ?_
    refine Y_getR 5 rfl (pc2 := 13) rfl fl_pi_9 ly_pi (by decide) rfl rfl (by omega) ?_
    refine Y_aload_n 6 rfl (pc2 := 14) rfl rfl ?_
    refine Y_getI 7 rfl (pc2 := 17) rfl fl_pi_24 ly_pi (by decide) rfl ?_
    refine Y_top hm ?_
    refine Y_iload_n 8 rfl (pc2 := 18) rfl rfl ?_
    refine Y_iast 9 rfl (pc2 := 19) rfl ly_piC rfl (by omega) (by decide) rfl ?_
    refine Y_aload_n 10 rfl (pc2 := 20) rfl rfl ?_
    refine Y_getR 11 rfl (pc2 := 23) rfl fl_pi_15 ly_pi (by decide) rfl rfl (by omega) ?_
    refine Y_aload_n 12 rfl (pc2 := 24) rfl rfl ?_
    refine Y_getI 13 rfl (pc2 := 27) rfl fl_pi_24 ly_pi (by decide) rfl ?_
    refine Y_top ((uw_ne (by omega)).trans hm) ?_
    refine Y_iload_n 14 rfl (pc2 := 28) rfl rfl ?_
    refine Y_iast 15 rfl (pc2 := 29) rfl ly_piT rfl (by omega) (by decide) rfl ?_
    refine Y_aload_n 16 rfl (pc2 := 30) rfl rfl ?_
    refine Y_getR 17 rfl (pc2 := 33) rfl fl_pi_18 ly_pi (by decide) rfl rfl (by omega) ?_
    refine Y_aload_n 18 rfl (pc2 := 34) rfl rfl ?_
    refine Y_getI 19 rfl (pc2 := 37) rfl fl_pi_24 ly_pi (by decide) rfl ?_
    refine Y_top ((uw_ne (by omega)).trans ((uw_ne (by omega)).trans hm)) ?_
    refine Y_iload_n 20 rfl (pc2 := 38) rfl rfl ?_
    refine Y_iast 21 rfl (pc2 := 39) rfl ly_piL rfl (by omega) (by decide) rfl ?_
    refine Y_aload_n 22 rfl (pc2 := 40) rfl rfl ?_
    refine Y_dup 23 rfl (pc2 := 41) rfl rfl ?_
    refine Y_getI 24 rfl (pc2 := 44) rfl fl_pi_24 ly_pi (by decide) rfl ?_
    refine Y_top ((uw_ne (by omega)).trans ((uw_ne (by omega)).trans ((uw_ne (by omega)).trans hm))) ?_
    refine Y_iconst 25 rfl (pc2 := 45) rfl (v := nI 1) (by decide) ?_
    refine Y_iadd 26 rfl (pc2 := 46) rfl ?_
    refine Y_top (nI_add _ _) ?_
    refine Y_putI 27 rfl (pc2 := 49) rfl fl_pi_24 ly_pi (by decide) ⟨rfl, rfl⟩ ⟨_, _, _, rfl, rfl⟩ rfl ?_
    refine Y_vret 28 rfl rfl ⟨rfl, ?_⟩
    first | omega | exact ⟨rfl, rfl⟩

set_option maxHeartbeats 400000 in
theorem T_gh_part {G : Nat × (Nat → Int32)} {m : Mm} {S : Mm} (h : RC m S) (w : WF S) {x t l : Int32} : Y G M_gh_part (0, 0) 0 (en_ M_gh_part [.ref (0), .int (x), .int (t), .int (l)]) [] (LAY, m) (qm_ LAY (pc_ (sp_part S x t l) m (st_part S x t l))) := by
  change Y _ _ _ _ [some (.ref _), some (.int _), some (.int _), some (.int _)] _ _ _
  have hp := w.p.2
  refine Y_iload_n 0 rfl (pc2 := 1) rfl rfl ?_
  refine Y_iconst 1 rfl (pc2 := 2) rfl (v := nI 4) (by decide) ?_
  refine Y_cS 2 rfl (pc2 := 5) rfl ok_gh_isBelow lk_gh_80 vs_gh_isBelow (as := [.int _, .int _]) (rest := []) rfl rfl (T_gh_isBelow (by omega)) ?_
  rintro _ _ ⟨rfl, rfl⟩
  change Y _ _ _ _ _ [.int _] _ _
  refine Y_if_eqb 3 rfl (pc2 := 8) rfl (tgt := 26) (by decide) (fun h5 => ?_) (fun h5 => ?_)
  · refine Y_ldc 13 rfl (pc2 := 28) rfl kc_gh_75 ?_
    refine Y_iret 14 rfl rfl rfl ⟨rfl, ?_⟩
    first | exact pc_bad h (by unfold sp_part; rw [cI_f (fun e => h5 e.1)]; rfl) (by unfold st_part; rw [cI_f (fun e => h5 e.1.1)]) | exact pc_bad h (by unfold sp_part; rw [cI_f (fun e => Int32.not_lt.mpr e.2.1.1 h10)]; rfl) (by unfold st_part; rw [cI_f (fun e => Int32.not_lt.mpr e.1.2.1.1 h10)]) | exact pc_bad h (by unfold sp_part; rw [cI_f (fun e => Int32.not_lt.mpr e.2.1.2 h16)]; rfl) (by unfold st_part; rw [cI_f (fun e => Int32.not_lt.mpr e.1.2.1.2 h16)]) | exact pc_bad h (by unfold sp_part; rw [cI_f (fun e => h23 e.2.2)]; rfl) (by unfold st_part; rw [cI_f (fun e => h23 e.1.2.2)])
  · refine Y_iload_n 4 rfl (pc2 := 9) rfl rfl ?_
    refine Y_iconst 5 rfl (pc2 := 10) rfl (v := nI 1) (by decide) ?_
    refine Y_icmp_lt 6 rfl (pc2 := 13) rfl (tgt := 26) (by decide) (fun h10 => ?_) (fun h10 => ?_)
    · refine Y_ldc 13 rfl (pc2 := 28) rfl kc_gh_75 ?_
      refine Y_iret 14 rfl rfl rfl ⟨rfl, ?_⟩
      first | exact pc_bad h (by unfold sp_part; rw [cI_f (fun e => h5 e.1)]; rfl) (by unfold st_part; rw [cI_f (fun e => h5 e.1.1)]) | exact pc_bad h (by unfold sp_part; rw [cI_f (fun e => Int32.not_lt.mpr e.2.1.1 h10)]; rfl) (by unfold st_part; rw [cI_f (fun e => Int32.not_lt.mpr e.1.2.1.1 h10)]) | exact pc_bad h (by unfold sp_part; rw [cI_f (fun e => Int32.not_lt.mpr e.2.1.2 h16)]; rfl) (by unfold st_part; rw [cI_f (fun e => Int32.not_lt.mpr e.1.2.1.2 h16)]) | exact pc_bad h (by unfold sp_part; rw [cI_f (fun e => h23 e.2.2)]; rfl) (by unfold st_part; rw [cI_f (fun e => h23 e.1.2.2)])
    · refine Y_iload_n 7 rfl (pc2 := 14) rfl rfl ?_
      refine Y_bipush 8 rfl (pc2 := 16) rfl (v := nI 9) (by decide) ?_
      refine Y_icmp_gt 9 rfl (pc2 := 19) rfl (tgt := 26) (by decide) (fun h16 => ?_) (fun h16 => ?_)
      · refine Y_ldc 13 rfl (pc2 := 28) rfl kc_gh_75 ?_
        refine Y_iret 14 rfl rfl rfl ⟨rfl, ?_⟩
        first | exact pc_bad h (by unfold sp_part; rw [cI_f (fun e => h5 e.1)]; rfl) (by unfold st_part; rw [cI_f (fun e => h5 e.1.1)]) | exact pc_bad h (by unfold sp_part; rw [cI_f (fun e => Int32.not_lt.mpr e.2.1.1 h10)]; rfl) (by unfold st_part; rw [cI_f (fun e => Int32.not_lt.mpr e.1.2.1.1 h10)]) | exact pc_bad h (by unfold sp_part; rw [cI_f (fun e => Int32.not_lt.mpr e.2.1.2 h16)]; rfl) (by unfold st_part; rw [cI_f (fun e => Int32.not_lt.mpr e.1.2.1.2 h16)]) | exact pc_bad h (by unfold sp_part; rw [cI_f (fun e => h23 e.2.2)]; rfl) (by unfold st_part; rw [cI_f (fun e => h23 e.1.2.2)])
      · refine Y_iload_n 10 rfl (pc2 := 20) rfl rfl ?_
        refine Y_cS 11 rfl (pc2 := 23) rfl ok_gh_isLevelOrNone lk_gh_161 vs_gh_isLevelOrNone (as := [.int _]) (rest := []) rfl rfl T_gh_isLevelOrNone ?_
        rintro _ _ ⟨rfl, rfl⟩
        change Y _ _ _ _ _ [.int _] _ _
        refine Y_if_neb 12 rfl (pc2 := 26) rfl (tgt := 29) (by decide) (fun h23 => ?_) (fun h23 => ?_)
        · have hC : paC x t l := ⟨h5, ⟨Int32.not_lt.mp h10, Int32.not_lt.mp h16⟩, h23⟩
          refine Y_aload_n 15 rfl (pc2 := 30) rfl rfl ?_
          refine Y_getR 16 rfl (pc2 := 33) rfl fl_gh_38 ly_gh (by decide) rfl rfl (by omega) ?_
          refine Y_getI 17 rfl (pc2 := 36) rfl fl_gh_164 ly_pi (by decide) rfl ?_
          refine Y_top (h.p.trans w.p.1) ?_
          refine Y_bipush 18 rfl (pc2 := 38) rfl (v := nI 16) (by decide) ?_
          refine Y_icmp_ltn 19 rfl (pc2 := 41) rfl (tgt := 44) (by decide) (by omega) (by omega) (fun h38 => ?_) (fun h38 => ?_)
          · refine Y_aload_n 22 rfl (pc2 := 45) rfl rfl ?_
            refine Y_getR 23 rfl (pc2 := 48) rfl fl_gh_38 ly_gh (by decide) rfl rfl (by omega) ?_
            refine Y_iload_n 24 rfl (pc2 := 49) rfl rfl ?_
            refine Y_iload_n 25 rfl (pc2 := 50) rfl rfl ?_
            refine Y_iload_n 26 rfl (pc2 := 51) rfl rfl ?_
            refine Y_cV 27 rfl (pc2 := 54) rfl ok_pi_addPart lk_gh_167 vi_pi_addPart ly_pi rfl (by decide) rfl (as := [.int _, .int _, .int _]) (rest := []) rfl rfl (T_pi_addPart (n := pn S) (by omega) (h.p.trans w.p.1)) ?_
            rintro _ _ ⟨rfl, rfl⟩
            change Y _ _ _ _ _ [] _ _
            refine Y_aload_n 28 rfl (pc2 := 55) rfl rfl ?_
            refine Y_getR 29 rfl (pc2 := 58) rfl fl_gh_38 ly_gh (by decide) rfl rfl (by omega) ?_
            refine Y_getI 30 rfl (pc2 := 61) rfl fl_gh_164 ly_pi (by decide) rfl ?_
            refine Y_top (uw_same) ?_
            refine Y_iret 31 rfl rfl rfl ⟨rfl, ?_⟩
            exact ⟨by unfold sp_part; rw [cI_t hC, if_neg (by omega)], by unfold st_part; rw [cI_t ⟨hC, by omega⟩]; exact RC_part h w (by omega) (lvM_oC h23), fun a ha => funext fun q => by show uw_ _ _ _ _ _ _ = _; rw [uw_ne (by omega), uw_ne (by omega), uw_ne (by omega), uw_ne (by omega)]⟩
          · refine Y_ldc 20 rfl (pc2 := 43) rfl kc_gh_71 ?_
            refine Y_iret 21 rfl rfl rfl ⟨rfl, ?_⟩
            exact pc_bad h (by unfold sp_part; rw [cI_t hC, if_pos (by omega)]; rfl) (by unfold st_part; rw [cI_f (fun e => e.2 (by omega))])
        · refine Y_ldc 13 rfl (pc2 := 28) rfl kc_gh_75 ?_
          refine Y_iret 14 rfl rfl rfl ⟨rfl, ?_⟩
          first | exact pc_bad h (by unfold sp_part; rw [cI_f (fun e => h5 e.1)]; rfl) (by unfold st_part; rw [cI_f (fun e => h5 e.1.1)]) | exact pc_bad h (by unfold sp_part; rw [cI_f (fun e => Int32.not_lt.mpr e.2.1.1 h10)]; rfl) (by unfold st_part; rw [cI_f (fun e => Int32.not_lt.mpr e.1.2.1.1 h10)]) | exact pc_bad h (by unfold sp_part; rw [cI_f (fun e => Int32.not_lt.mpr e.2.1.2 h16)]; rfl) (by unfold st_part; rw [cI_f (fun e => Int32.not_lt.mpr e.1.2.1.2 h16)]) | exact pc_bad h (by unfold sp_part; rw [cI_f (fun e => h23 e.2.2)]; rfl) (by unfold st_part; rw [cI_f (fun e => h23 e.1.2.2)])

set_option maxHeartbeats 400000 in
theorem RC_signal {m S : Mm} (h : RC m S) (w : WF S) {r0 : Nat} {l1 l2 : Int32} (hr0 : r0 < 144) (hv : l1 = oC l2) (hl : oR l2 4) : RC (uw_ (uw_ m 12 r0 l1) 8 5 (nI (cnt (fun i => ¬ uw_ m 12 r0 l1 12 i = NONE_) 144))) (uw_ S 163 r0 l2) := by
  refine ⟨fun c hc => ?_, fun c b hc hb => ?_, fun c b hc hb => ?_, fun c b hc hb => ?_, fun c b hc hb => ?_, fun l hl => ?_, fun l f g s hl hf hg hs => ?_, fun l f s hl hf hs => ?_, fun l k hl hk => ?_, ?_, fun p hp => ?_, fun p hp => ?_, fun p hp => ?_, fun r hr => ?_, ?_, ?_, fun i hi => ?_, fun s hs => ?_, fun s i hs hi => ?_⟩
  · (repeat rw [uw_ne (by omega)]); exact h.b c hc
  · (repeat rw [uw_ne (by omega)]); exact h.n c b hc hb
  · (repeat rw [uw_ne (by omega)]); exact h.g c b hc hb
  · (repeat rw [uw_ne (by omega)]); exact h.t c b hc hb
  · (repeat rw [uw_ne (by omega)]); exact h.u c b hc hb
  · (repeat rw [uw_ne (by omega)]); exact h.l l hl
  · (repeat rw [uw_ne (by omega)]); exact h.r l f g s hl hf hg hs
  · (repeat rw [uw_ne (by omega)]); exact h.m l f s hl hf hs
  · (repeat rw [uw_ne (by omega)]); exact h.us l k hl hk
  · (repeat rw [uw_ne (by omega)]); exact h.p 
  · (repeat rw [uw_ne (by omega)]); exact h.c p hp
  · (repeat rw [uw_ne (by omega)]); exact h.pt p hp
  · (repeat rw [uw_ne (by omega)]); exact h.pl p hp
  · by_cases e : r = r0
    · rw [e, uw_ne (by omega), uw_same, uw_same]; exact hv
    · rw [uw_ne (by omega), uw_ne (by omega), uw_ne (by omega)]; exact h.sg r hr
  · rw [uw_same]
    refine congrArg nI (cnt_congr _ (fun i hi => ?_))
    by_cases e : i = r0
    · rw [e, uw_same, uw_same, hv, oC_none (by decide) hl]
    · rw [uw_ne (by omega), uw_ne (by omega), h.sg i hi, oC_none (by decide) (w.r i hi)]
  · (repeat rw [uw_ne (by omega)]); exact h.tp 
  · (repeat rw [uw_ne (by omega)]); exact h.tv i hi
  · (repeat rw [uw_ne (by omega)]); exact h.sp s hs
  · (repeat rw [uw_ne (by omega)]); exact h.sb s i hs hi

set_option maxHeartbeats 400000 in
theorem cnt_upd {f g : Nat → Prop} {r : Nat} : ∀ n, (∀ i, i < n → ¬ i = r → (g i → f i)) → cnt g n ≤ cnt f n + 1
  | 0, _ => by simp [cnt]
  | n + 1, h => by
    by_cases e : n = r
    · subst e
      have h1 : cnt g n ≤ cnt f n := by
        have : ∀ k, k ≤ n → cnt g k ≤ cnt f k := by
          intro k
          induction k with
          | zero => intro _; exact Nat.le_refl _
          | succ k ih =>
            intro hk
            have a := ih (by omega)
            by_cases hg : g k
            · rw [cnt_t hg, cnt_t (h k (by omega) (by omega) hg)]; omega
            · rw [cnt_f hg]
              by_cases hf : f k
              · rw [cnt_t hf]; omega
              · rw [cnt_f hf]; exact a
        exact this n (Nat.le_refl n)
      have h2 : cnt g (n + 1) ≤ cnt g n + 1 := by
        by_cases hg : g n
        · rw [cnt_t hg]; omega
        · rw [cnt_f hg]; omega
      have h3 : cnt f n ≤ cnt f (n + 1) := by
        by_cases hf : f n
        · rw [cnt_t hf]; omega
        · rw [cnt_f hf]; omega
      omega
    · have a := cnt_upd n (fun i hi => h i (by omega))
      by_cases hg : g n
      · rw [cnt_t hg, cnt_t (h n (by omega) e hg)]; omega
      · rw [cnt_f hg]
        by_cases hf : f n
        · rw [cnt_t hf]; omega
        · rw [cnt_f hf]; exact a
set_option maxHeartbeats 400000 in
theorem cnt_mono {f g : Nat → Prop} : ∀ n, (∀ i, i < n → (g i → f i)) → cnt g n ≤ cnt f n
  | 0, _ => Nat.le_refl _
  | n + 1, h => by
    have a := cnt_mono n (fun i hi => h i (by omega))
    by_cases hg : g n
    · rw [cnt_t hg, cnt_t (h n (by omega) hg)]; omega
    · rw [cnt_f hg]
      by_cases hf : f n
      · rw [cnt_t hf]; omega
      · rw [cnt_f hf]; exact a
set_option maxHeartbeats 400000 in
theorem uw_imp {S : Mm} {r0 i : Nat} {v : Int32} (e : ¬ i = r0) : uw_ S 163 r0 v 163 i = S 163 i := uw_ne (by omega)
set_option maxHeartbeats 400000 in
theorem sigs_upd {S : Mm} (w : WF S) {r0 : Nat} {l2 : Int32} (h : ¬ (S 163 r0 < 0 ∧ ¬ l2 < 0 ∧ sigs S = 20)) : sigs (uw_ S 163 r0 l2) ≤ 20 := by
  have hw := w.sg
  unfold sigs at hw h ⊢
  by_cases c1 : S 163 r0 < 0
  · by_cases c2 : l2 < 0
    · refine Nat.le_trans (cnt_mono _ (fun i hi hg => ?_)) hw
      by_cases e : i = r0
      · rw [e, uw_same] at hg; exact absurd c2 hg
      · rw [uw_imp e] at hg; exact hg
    · have := cnt_upd (f := fun r => ¬ S 163 r < 0) (g := fun r => ¬ uw_ S 163 r0 l2 163 r < 0) (r := r0) 144 (fun i hi e hg => by rw [uw_imp e] at hg; exact hg)
      have h2 : ¬ cnt (fun r => ¬ S 163 r < 0) 144 = 20 := fun q => h ⟨c1, c2, q⟩
      omega
  · refine Nat.le_trans (cnt_mono _ (fun i hi hg => ?_)) hw
    by_cases e : i = r0
    · rw [e]; exact c1
    · rw [uw_imp e] at hg; exact hg

set_option maxHeartbeats 400000 in
theorem WF_signal {S : Mm} (w : WF S) {r0 : Nat} {l2 : Int32} (hl : oR l2 4) (hs : ¬ (S 163 r0 < 0 ∧ ¬ l2 < 0 ∧ sigs S = 20)) : WF (uw_ S 163 r0 l2) := by
  refine ⟨fun c hc => ?_, fun i hi => ?_, fun i hi => ?_, fun i hi => ?_, fun i hi => ?_, fun l k hl hk => ?_, ?_, fun p hp => ?_, fun p hp => ?_, fun p hp => ?_, fun p hp => ?_, fun r hr => ?_, ?_, fun i hi => ?_, fun s hs => ?_, fun i hi => ?_, ?_⟩
  · exact w.b c hc
  · exact w.n i hi
  · exact w.g i hi
  · exact w.s i hi
  · exact w.m i hi
  · exact w.u l k hl hk
  · exact w.p 
  · exact w.c p hp
  · exact w.t p hp
  · exact w.t1 p hp
  · exact w.l p hp
  · by_cases e : r = r0
    · rw [e, uw_same]; exact hl
    · rw [uw_ne (by omega)]; exact w.r r hr
  · exact w.tp 
  · exact w.tv i hi
  · exact w.pl s hs
  · exact w.k i hi
  · exact sigs_upd w hs

set_option maxHeartbeats 400000 in
theorem T_pi_setSignal {G : Nat × (Nat → Int32)} {m : Mm} {r : Nat} {l : Int32} (hr : r < 144) : Y G M_pi_setSignal (0, 0) 0 (en_ M_pi_setSignal [.ref (8), .int (nI r), .int (l)]) [] (LAY, m) (qm_ LAY (pf_ (uw_ (uw_ m 12 r l) 8 5 (nI (cnt (fun i => ¬ uw_ m 12 r l 12 i = NONE_) 144))))) := by
  change Y _ _ _ _ [some (.ref _), some (.int _), some (.int _)] _ _ _
  refine Y_aload_n 0 rfl (pc2 := 1) rfl rfl ?_
  refine Y_getR 1 rfl (pc2 := 4) rfl fl_pi_21 ly_pi (by decide) rfl rfl (by omega) ?_
  refine Y_iload_n 2 rfl (pc2 := 5) rfl rfl ?_
  refine Y_iload_n 3 rfl (pc2 := 6) rfl rfl ?_
  refine Y_iast 4 rfl (pc2 := 7) rfl ly_piS rfl (by omega) (by decide) rfl ?_
  refine Y_aload_n 5 rfl (pc2 := 8) rfl rfl ?_
  refine Y_aload_n 6 rfl (pc2 := 9) rfl rfl ?_
  refine Y_getR 7 rfl (pc2 := 12) rfl fl_pi_21 ly_pi (by decide) rfl rfl (by omega) ?_
  refine Y_sipush 8 rfl (pc2 := 15) rfl (v := nI 144) (by decide) ?_
  refine Y_cS 9 rfl (pc2 := 18) rfl ok_gh_countTold lk_pi_38 vs_gh_countTold (as := [.ref _, .int _]) (rest := [.ref _]) rfl rfl (T_gh_countTold ly_piS (by decide) (by omega)) ?_
  rintro _ _ ⟨rfl, rfl⟩
  change Y _ _ _ _ _ [.int _, .ref _] _ _
  refine Y_putI 10 rfl (pc2 := 21) rfl fl_pi_28 ly_pi (by decide) ⟨rfl, rfl⟩ ⟨_, _, _, rfl, rfl⟩ rfl ?_
  refine Y_vret 11 rfl rfl ⟨rfl, ?_⟩
  exact ⟨rfl, rfl⟩

set_option maxHeartbeats 400000 in
theorem T_gh_signal {G : Nat × (Nat → Int32)} {m : Mm} {S : Mm} (h : RC m S) (w : WF S) {x l : Int32} : Y G M_gh_signal (0, 0) 0 (en_ M_gh_signal [.ref (0), .int (x), .int (l)]) [] (LAY, m) (qm_ LAY (pc_ (sp_signal S x l) m (st_signal S x l))) := by
  change Y _ _ _ _ [some (.ref _), some (.int _), some (.int _), none] _ _ _
  have hs20 := w.sg
  refine Y_iload_n 0 rfl (pc2 := 1) rfl rfl ?_
  refine Y_sipush 1 rfl (pc2 := 4) rfl (v := nI 144) (by decide) ?_
  refine Y_cS 2 rfl (pc2 := 7) rfl ok_gh_isBelow lk_gh_80 vs_gh_isBelow (as := [.int _, .int _]) (rest := []) rfl rfl (T_gh_isBelow (by omega)) ?_
  rintro _ _ ⟨rfl, rfl⟩
  change Y _ _ _ _ _ [.int _] _ _
  refine Y_if_eqb 3 rfl (pc2 := 10) rfl (tgt := 17) (by decide) (fun h7 => ?_) (fun h7 => ?_)
  · refine Y_ldc 7 rfl (pc2 := 19) rfl kc_gh_75 ?_
    refine Y_iret 8 rfl rfl rfl ⟨rfl, ?_⟩
    first | exact pc_bad h (by unfold sp_signal; rw [cI_f (fun e => h7 e.1)]; rfl) (by unfold st_signal; rw [cI_f (fun e => h7 e.1.1)]) | exact pc_bad h (by unfold sp_signal; rw [cI_f (fun e => h14 e.2)]; rfl) (by unfold st_signal; rw [cI_f (fun e => h14 e.1.2)])
  · refine Y_iload_n 4 rfl (pc2 := 11) rfl rfl ?_
    refine Y_cS 5 rfl (pc2 := 14) rfl ok_gh_isLevelOrNone lk_gh_161 vs_gh_isLevelOrNone (as := [.int _]) (rest := []) rfl rfl T_gh_isLevelOrNone ?_
    rintro _ _ ⟨rfl, rfl⟩
    change Y _ _ _ _ _ [.int _] _ _
    refine Y_if_neb 6 rfl (pc2 := 17) rfl (tgt := 20) (by decide) (fun h14 => ?_) (fun h14 => ?_)
    · obtain ⟨r, hr, rfl⟩ := h7
      have hC : siC (nI r) l := ⟨⟨r, hr, rfl⟩, h14⟩
      have hor := w.r r hr
      have hon := oC_none (by decide) hor
      refine Y_aload_n 9 rfl (pc2 := 21) rfl rfl ?_
      refine Y_getR 10 rfl (pc2 := 24) rfl fl_gh_38 ly_gh (by decide) rfl rfl (by omega) ?_
      refine Y_getR 11 rfl (pc2 := 27) rfl fl_gh_171 ly_pi (by decide) rfl rfl (by omega) ?_
      refine Y_iload_n 12 rfl (pc2 := 28) rfl rfl ?_
      refine Y_iald 13 rfl (pc2 := 29) rfl ly_piS rfl (by omega) (by decide) ?_
      refine Y_top (h.sg _ (by omega)) ?_
      refine Y_istore_n 14 rfl (pc2 := 30) rfl (Nat.le_of_ble_eq_true rfl) (ls2 := [some (.ref _), some (.int _), some (.int _), some (.int _)]) rfl ?_
      refine Y_iload_n 15 rfl (pc2 := 31) rfl rfl ?_
      refine Y_ldc 16 rfl (pc2 := 33) rfl kc_gh_84 ?_
      refine Y_icmp_ne 17 rfl (pc2 := 36) rfl (tgt := 57) (by decide) (fun h33 => ?_) (fun h33 => ?_)
      · refine Y_aload_n 28 rfl (pc2 := 58) rfl rfl ?_
        refine Y_getR 29 rfl (pc2 := 61) rfl fl_gh_38 ly_gh (by decide) rfl rfl (by omega) ?_
        refine Y_iload_n 30 rfl (pc2 := 62) rfl rfl ?_
        refine Y_iload_n 31 rfl (pc2 := 63) rfl rfl ?_
        refine Y_cV 32 rfl (pc2 := 66) rfl ok_pi_setSignal lk_gh_177 vi_pi_setSignal ly_pi rfl (by decide) rfl (as := [.int _, .int _]) (rest := []) rfl rfl (T_pi_setSignal hr) ?_
        rintro _ _ ⟨rfl, rfl⟩
        change Y _ _ _ _ _ [] _ _
        refine Y_iload_n 33 rfl (pc2 := 67) rfl rfl ?_
        refine Y_iret 34 rfl rfl rfl ⟨rfl, ?_⟩
        have hF : ¬ siF S (nI r) l := by
          rintro ⟨e1, e2, e3⟩
          rw [nv_nI (by omega)] at e1
          first
            | exact h33 (hon.mpr e1)
            | exact e2 h39
            | exact e2 (Classical.byContradiction h39)
            | omega
        exact ⟨by unfold sp_signal; rw [cI_t hC, cI_f hF, nv_nI (by omega)], by unfold st_signal; rw [cI_t ⟨hC, hF⟩, nv_nI (by omega)]; exact RC_signal h w hr (lvM_oC h14) (lvM_or h14), fun a ha => funext fun q => by show uw_ _ _ _ _ _ _ = _; rw [uw_ne (by omega), uw_ne (by omega)]⟩
      · refine Y_iload_n 18 rfl (pc2 := 37) rfl rfl ?_
        refine Y_ldc 19 rfl (pc2 := 39) rfl kc_gh_84 ?_
        refine Y_icmp_eq 20 rfl (pc2 := 42) rfl (tgt := 57) (by decide) (fun h39 => ?_) (fun h39 => ?_)
        · refine Y_aload_n 28 rfl (pc2 := 58) rfl rfl ?_
          refine Y_getR 29 rfl (pc2 := 61) rfl fl_gh_38 ly_gh (by decide) rfl rfl (by omega) ?_
          refine Y_iload_n 30 rfl (pc2 := 62) rfl rfl ?_
          refine Y_iload_n 31 rfl (pc2 := 63) rfl rfl ?_
          refine Y_cV 32 rfl (pc2 := 66) rfl ok_pi_setSignal lk_gh_177 vi_pi_setSignal ly_pi rfl (by decide) rfl (as := [.int _, .int _]) (rest := []) rfl rfl (T_pi_setSignal hr) ?_
          rintro _ _ ⟨rfl, rfl⟩
          change Y _ _ _ _ _ [] _ _
          refine Y_iload_n 33 rfl (pc2 := 67) rfl rfl ?_
          refine Y_iret 34 rfl rfl rfl ⟨rfl, ?_⟩
          have hF : ¬ siF S (nI r) l := by
            rintro ⟨e1, e2, e3⟩
            rw [nv_nI (by omega)] at e1
            first
              | exact h33 (hon.mpr e1)
              | exact e2 h39
              | exact e2 (Classical.byContradiction h39)
              | omega
          exact ⟨by unfold sp_signal; rw [cI_t hC, cI_f hF, nv_nI (by omega)], by unfold st_signal; rw [cI_t ⟨hC, hF⟩, nv_nI (by omega)]; exact RC_signal h w hr (lvM_oC h14) (lvM_or h14), fun a ha => funext fun q => by show uw_ _ _ _ _ _ _ = _; rw [uw_ne (by omega), uw_ne (by omega)]⟩
        · refine Y_aload_n 21 rfl (pc2 := 43) rfl rfl ?_
          refine Y_getR 22 rfl (pc2 := 46) rfl fl_gh_38 ly_gh (by decide) rfl rfl (by omega) ?_
          refine Y_getI 23 rfl (pc2 := 49) rfl fl_gh_174 ly_pi (by decide) rfl ?_
          refine Y_top (h.sn) ?_
          refine Y_bipush 24 rfl (pc2 := 51) rfl (v := nI 20) (by decide) ?_
          refine Y_icmp_ltn 25 rfl (pc2 := 54) rfl (tgt := 57) (by decide) (by omega) (by omega) (fun h51 => ?_) (fun h51 => ?_)
          · refine Y_aload_n 28 rfl (pc2 := 58) rfl rfl ?_
            refine Y_getR 29 rfl (pc2 := 61) rfl fl_gh_38 ly_gh (by decide) rfl rfl (by omega) ?_
            refine Y_iload_n 30 rfl (pc2 := 62) rfl rfl ?_
            refine Y_iload_n 31 rfl (pc2 := 63) rfl rfl ?_
            refine Y_cV 32 rfl (pc2 := 66) rfl ok_pi_setSignal lk_gh_177 vi_pi_setSignal ly_pi rfl (by decide) rfl (as := [.int _, .int _]) (rest := []) rfl rfl (T_pi_setSignal hr) ?_
            rintro _ _ ⟨rfl, rfl⟩
            change Y _ _ _ _ _ [] _ _
            refine Y_iload_n 33 rfl (pc2 := 67) rfl rfl ?_
            refine Y_iret 34 rfl rfl rfl ⟨rfl, ?_⟩
            have hF : ¬ siF S (nI r) l := by
              rintro ⟨e1, e2, e3⟩
              rw [nv_nI (by omega)] at e1
              first
                | exact h33 (hon.mpr e1)
                | exact e2 h39
                | exact e2 (Classical.byContradiction h39)
                | omega
            exact ⟨by unfold sp_signal; rw [cI_t hC, cI_f hF, nv_nI (by omega)], by unfold st_signal; rw [cI_t ⟨hC, hF⟩, nv_nI (by omega)]; exact RC_signal h w hr (lvM_oC h14) (lvM_or h14), fun a ha => funext fun q => by show uw_ _ _ _ _ _ _ = _; rw [uw_ne (by omega), uw_ne (by omega)]⟩
          · refine Y_ldc 26 rfl (pc2 := 56) rfl kc_gh_71 ?_
            refine Y_iret 27 rfl rfl rfl ⟨rfl, ?_⟩
            have hF : siF S (nI r) l := ⟨by rw [nv_nI (by omega)]; exact hon.mp (by first | exact h33 | exact Classical.byContradiction h33), h39, by omega⟩
            exact pc_bad h (by unfold sp_signal; rw [cI_t hC, cI_t hF]; rfl) (by unfold st_signal; rw [cI_f (fun e => e.2 hF)])
    · refine Y_ldc 7 rfl (pc2 := 19) rfl kc_gh_75 ?_
      refine Y_iret 8 rfl rfl rfl ⟨rfl, ?_⟩
      first | exact pc_bad h (by unfold sp_signal; rw [cI_f (fun e => h7 e.1)]; rfl) (by unfold st_signal; rw [cI_f (fun e => h7 e.1.1)]) | exact pc_bad h (by unfold sp_signal; rw [cI_f (fun e => h14 e.2)]; rfl) (by unfold st_signal; rw [cI_f (fun e => h14 e.1.2)])

def st_drop (S : Mm) : Mm := ur_ (uw_ S 153 6 (nI 0)) 163 (flr (S 163) 144 (-1))
set_option maxHeartbeats 400000 in
theorem cnt_0 {f : Nat → Prop} : ∀ n, (∀ i, i < n → ¬ f i) → cnt f n = 0
  | 0, _ => rfl
  | n + 1, h => by rw [cnt_f (h n (by omega))]; exact cnt_0 n (fun i hi => h i (by omega))
set_option maxHeartbeats 400000 in
theorem sigs_drop {S : Mm} : sigs (st_drop S) = 0 := by
  refine cnt_0 144 (fun i hi e => e ?_)
  show flr (S 163) 144 (-1) i < 0
  unfold flr
  rw [if_pos hi]; decide
set_option maxHeartbeats 400000 in
theorem RC_drop {m S : Mm} (h : RC m S)  : RC (ur_ (uw_ (uw_ m 8 4 (nI 0)) 8 5 (nI 0)) 12 (flr (uw_ (uw_ m 8 4 (nI 0)) 8 5 (nI 0) 12) 144 NONE_)) (st_drop S) := by
  refine ⟨fun c hc => ?_, fun c b hc hb => ?_, fun c b hc hb => ?_, fun c b hc hb => ?_, fun c b hc hb => ?_, fun l hl => ?_, fun l f g s hl hf hg hs => ?_, fun l f s hl hf hs => ?_, fun l k hl hk => ?_, ?_, fun p hp => ?_, fun p hp => ?_, fun p hp => ?_, fun r hr => ?_, ?_, ?_, fun i hi => ?_, fun s hs => ?_, fun s i hs hi => ?_⟩
  · (first | rw [ur_ne (by omega), uw_ne (by omega), uw_ne (by omega)] | skip); exact h.b c hc
  · (first | rw [ur_ne (by omega), uw_ne (by omega), uw_ne (by omega)] | skip); exact h.n c b hc hb
  · (first | rw [ur_ne (by omega), uw_ne (by omega), uw_ne (by omega)] | skip); exact h.g c b hc hb
  · (first | rw [ur_ne (by omega), uw_ne (by omega), uw_ne (by omega)] | skip); exact h.t c b hc hb
  · (first | rw [ur_ne (by omega), uw_ne (by omega), uw_ne (by omega)] | skip); exact h.u c b hc hb
  · (first | rw [ur_ne (by omega), uw_ne (by omega), uw_ne (by omega)] | skip); exact h.l l hl
  · (first | rw [ur_ne (by omega), uw_ne (by omega), uw_ne (by omega)] | skip); exact h.r l f g s hl hf hg hs
  · (first | rw [ur_ne (by omega), uw_ne (by omega), uw_ne (by omega)] | skip); exact h.m l f s hl hf hs
  · (first | rw [ur_ne (by omega), uw_ne (by omega), uw_ne (by omega)] | skip); exact h.us l k hl hk
  · rfl
  · (first | rw [ur_ne (by omega), uw_ne (by omega), uw_ne (by omega)] | skip); exact h.c p hp
  · (first | rw [ur_ne (by omega), uw_ne (by omega), uw_ne (by omega)] | skip); exact h.pt p hp
  · (first | rw [ur_ne (by omega), uw_ne (by omega), uw_ne (by omega)] | skip); exact h.pl p hp
  · show flr _ 144 NONE_ r = oC (flr (S 163) 144 (-1) r)
    unfold flr
    rw [if_pos hr, if_pos hr]; rfl
  · rw [sigs_drop]; rfl
  · (first | rw [ur_ne (by omega), uw_ne (by omega), uw_ne (by omega)] | skip); exact h.tp 
  · (first | rw [ur_ne (by omega), uw_ne (by omega), uw_ne (by omega)] | skip); exact h.tv i hi
  · (first | rw [ur_ne (by omega), uw_ne (by omega), uw_ne (by omega)] | skip); exact h.sp s hs
  · (first | rw [ur_ne (by omega), uw_ne (by omega), uw_ne (by omega)] | skip); exact h.sb s i hs hi

set_option maxHeartbeats 400000 in
theorem WF_drop {S : Mm} (w : WF S)  : WF (st_drop S) := by
  refine ⟨fun c hc => ?_, fun i hi => ?_, fun i hi => ?_, fun i hi => ?_, fun i hi => ?_, fun l k hl hk => ?_, ?_, fun p hp => ?_, fun p hp => ?_, fun p hp => ?_, fun p hp => ?_, fun r hr => ?_, ?_, fun i hi => ?_, fun s hs => ?_, fun i hi => ?_, ?_⟩
  · exact w.b c hc
  · exact w.n i hi
  · exact w.g i hi
  · exact w.s i hi
  · exact w.m i hi
  · exact w.u l k hl hk
  · exact ⟨rfl, Nat.zero_le _⟩
  · exact w.c p hp
  · exact w.t p hp
  · exact absurd hp (Nat.not_lt_zero p)
  · exact w.l p hp
  · show oR (flr (S 163) 144 (-1) r) 4
    unfold flr
    rw [if_pos hr]; exact Or.inl rfl
  · exact w.tp 
  · exact w.tv i hi
  · exact w.pl s hs
  · exact w.k i hi
  · rw [sigs_drop]; omega

set_option maxHeartbeats 400000 in
theorem T_pi_clear {G : Nat × (Nat → Int32)} {m : Mm}  : Y G M_pi_clear (0, 0) 0 (en_ M_pi_clear [.ref (8)]) [] (LAY, m) (qm_ LAY (pf_ (ur_ (uw_ (uw_ m 8 4 (nI 0)) 8 5 (nI 0)) 12 (flr (uw_ (uw_ m 8 4 (nI 0)) 8 5 (nI 0) 12) 144 NONE_)))) := by
  change Y _ _ _ _ [some (.ref _)] _ _ _
  refine Y_aload_n 0 rfl (pc2 := 1) rfl rfl ?_
  refine Y_iconst 1 rfl (pc2 := 2) rfl (v := nI 0) (by decide) ?_
  refine Y_putI 2 rfl (pc2 := 5) rfl fl_pi_24 ly_pi (by decide) ⟨rfl, rfl⟩ ⟨_, _, _, rfl, rfl⟩ rfl ?_
  refine Y_aload_n 3 rfl (pc2 := 6) rfl rfl ?_
  refine Y_iconst 4 rfl (pc2 := 7) rfl (v := nI 0) (by decide) ?_
  refine Y_putI 5 rfl (pc2 := 10) rfl fl_pi_28 ly_pi (by decide) ⟨rfl, rfl⟩ ⟨_, _, _, rfl, rfl⟩ rfl ?_
  refine Y_aload_n 6 rfl (pc2 := 11) rfl rfl ?_
  refine Y_getR 7 rfl (pc2 := 14) rfl fl_pi_21 ly_pi (by decide) rfl rfl (by omega) ?_
  refine Y_ldc 8 rfl (pc2 := 16) rfl kc_pi_31 ?_
  refine Y_cS 9 rfl (pc2 := 19) rfl ok_ar_filli lk_pi_32 vs_ar_filli (as := [.ref _, .int _]) (rest := []) rfl rfl (T_ar_filli ly_piS (by decide)) ?_
  rintro _ _ ⟨rfl, rfl⟩
  change Y _ _ _ _ _ [] _ _
  refine Y_vret 10 rfl rfl ⟨rfl, ?_⟩
  exact ⟨rfl, rfl⟩

set_option maxHeartbeats 400000 in
theorem T_gh_drop {G : Nat × (Nat → Int32)} {m : Mm} {S : Mm} (h : RC m S) (w : WF S) : Y G M_gh_drop (0, 0) 0 (en_ M_gh_drop [.ref (0)]) [] (LAY, m) (qm_ LAY (pc_ (S 153 6) m (st_drop S))) := by
  change Y _ _ _ _ [some (.ref _), none] _ _ _
  refine Y_aload_n 0 rfl (pc2 := 1) rfl rfl ?_
  refine Y_getR 1 rfl (pc2 := 4) rfl fl_gh_38 ly_gh (by decide) rfl rfl (by omega) ?_
  refine Y_getI 2 rfl (pc2 := 7) rfl fl_gh_164 ly_pi (by decide) rfl ?_
  refine Y_top (h.p) ?_
  refine Y_istore_n 3 rfl (pc2 := 8) rfl (Nat.le_of_ble_eq_true rfl) (ls2 := [some (.ref _), some (.int _)]) rfl ?_
  refine Y_aload_n 4 rfl (pc2 := 9) rfl rfl ?_
  refine Y_getR 5 rfl (pc2 := 12) rfl fl_gh_38 ly_gh (by decide) rfl rfl (by omega) ?_
  refine Y_cV 6 rfl (pc2 := 15) rfl ok_pi_clear lk_gh_181 vi_pi_clear ly_pi rfl (by decide) rfl (as := []) (rest := []) rfl rfl T_pi_clear ?_
  rintro _ _ ⟨rfl, rfl⟩
  change Y _ _ _ _ _ [] _ _
  refine Y_iload_n 7 rfl (pc2 := 16) rfl rfl ?_
  refine Y_iret 8 rfl rfl rfl ⟨rfl, ?_⟩
  exact ⟨rfl, RC_drop h, fun a ha => by show ur_ _ _ _ a = _; rw [ur_ne (by omega)]; funext k; rw [uw_ne (by omega), uw_ne (by omega)]⟩
