/-! the class: its questions -/
def NO_ : Int32 := -1000000002
noncomputable def sp_told (S : Mm) (x y z : Int32) : Int32 := cI (iR x 4 ∧ iR y (bt S (nv x)) ∧ iR z 3) (if z = nI 0 then oC (S 155 (32 * nv x + nv y)) else if z = nI 1 then tone S (nv x) (nv y) else oC (S 156 (32 * nv x + nv y))) BAD_
noncomputable def sp_isOf (S : Mm) (x y z : Int32) : Int32 := cI (iR x 4 ∧ iR y (bt S (nv x)) ∧ iR z 4) (if S 156 (32 * nv x + nv y) < 0 then NO_ else bI (nv z = 0 ∨ nv (S 156 (32 * nv x + nv y)) = nv z ∨ (nv z = 2 ∧ nv (S 156 (32 * nv x + nv y)) = 3))) BAD_
noncomputable def sp_wrong (S : Mm) (x y : Int32) : Int32 := cI (iR x 4 ∧ iR y 6) (wO S (nv x) (nv y)) BAD_
noncomputable def sp_round (S : Mm) (x y : Int32) : Int32 := cI (iR x (tot S) ∧ iR y 4) (if y = nI 0 then nI (pC S (wp S (nv x))) else if y = nI 1 then nI (wl S (nv x)) else if y = nI 2 then nI (wp S (nv x)) else nI (wt S (nv x))) BAD_
def cA_ (S : Mm) (r : Nat) : Nat := pC S (wp S r)
def goo (S : Mm) (x y z : Int32) : Prop := iR x (tot S) ∧ iR y (bt S (cA_ S (nv x))) ∧ iR z (2 ^ (wl S (nv x) + 1))
noncomputable def sp_plays (S : Mm) (p x y z : Int32) : Int32 := cI (iR p 4 ∧ goo S x y z) (if nv p = 1 ∨ nv p = 2 then kA S (cA_ S (nv x)) (wl S (nv x)) (nv p - 1) (nv y) (nv z) else if 0 < nv z then NONE_ else if nv p = 0 then oC (S 155 (32 * cA_ S (nv x) + nv y)) else oC (S 156 (32 * cA_ S (nv x) + nv y))) BAD_
def hP (x : Int32) : Prop := ∃ g, g < 2 ∧ x = nI (g + 1)
def dmp (k q : Int32) : Int32 := if k = NONE_ ∨ k = q then NONE_ else q
noncomputable def sp_damps (S : Mm) (p x y z : Int32) : Int32 := cI (hP p ∧ goo S x y z) (dmp (kA S (cA_ S (nv x)) (wl S (nv x)) (nv p - 1) (nv y) (nv z)) (kH S (cA_ S (nv x)) (wl S (nv x)) (nv p - 1) (nv y) (nv z))) BAD_
noncomputable def sp_strikes (S : Mm) (p x : Int32) : Int32 := cI (iR p 4 ∧ iR x (tot S)) (if nv p = 0 then nI (cnt (fun b => ¬ S 155 (32 * cA_ S (nv x) + b) < 0) (bt S (cA_ S (nv x)))) else if nv p = 3 then nI (cnt (fun b => ¬ S 156 (32 * cA_ S (nv x) + b) < 0) (bt S (cA_ S (nv x)))) else nI (su (fun b => cnt (fun s => ¬ S 157 (ix (wl S (nv x)) (us S (wl S (nv x)) (turn S (cA_ S (nv x)) b)) (nv p - 1) s) = -9) (2 ^ (wl S (nv x) + 1))) (bt S (cA_ S (nv x))))) BAD_
def sp_ticks (S : Mm) : Int32 := nI (ptk S (tot S))
noncomputable def sp_count (S : Mm) (x : Int32) : Int32 := cI (iR x 7) (if nv x = 0 then nI (su (bt S) 4) else if nv x = 1 then nI (su (fun c => cnt (fun b => ¬ S 156 (32 * c + b) < 0) (bt S c)) 4) else if nv x = 2 then nI (su (fun l => cnt (fun f => wS S l f = 2 ^ (l + 1)) 6) 4) else if nv x = 3 then S 153 6 else if nv x = 4 then nI (tot S) else if nv x = 5 then nI (sigs S) else S 153 12) BAD_
set_option maxHeartbeats 400000 in
theorem pc_0 {m S : Mm} {x y : Int32} (h : RC m S) (e : y = x) : pc_ x m S (some (.int y)) m := ⟨by rw [e], h, fun _ _ => rfl⟩
set_option maxHeartbeats 400000 in
theorem pc_w {m S : Mm} {x y a b c d : Int32} (h : RC m S) (e : y = x) : pc_ x m S (some (.int y)) (wk m a b c d) := ⟨by rw [e], RC_wk h, fun q hq => wk_ne (by omega)⟩
set_option maxHeartbeats 400000 in
theorem hP_is {x : Int32} : (0 < x ∧ x < nI 3) ↔ hP x := by
  constructor
  · rintro ⟨h1, h2⟩
    have h3 : ¬ x < 0 := Int32.not_lt.mpr (Int32.le_of_lt h1)
    obtain ⟨j, hj, rfl⟩ := nI_of h3
    have a := (nI_ltI hj (by decide)).mp h2
    have b : 0 < j := (nI_ltI (by decide) hj).mp (by rw [nI_0]; exact h1)
    exact ⟨j - 1, by omega, by congr 1; omega⟩
  · rintro ⟨g, hg, rfl⟩
    exact ⟨by rw [← nI_0]; exact (nI_ltI (by decide) (by omega)).mpr (by omega), (nI_ltI (by omega) (by decide)).mpr (by omega)⟩
set_option maxHeartbeats 400000 in
theorem T_gh_isHalf {G : Nat × (Nat → Int32)} {m : Mm} {x : Int32} : Y G M_gh_isHalfPlayer (0, 0) 0 (en_ M_gh_isHalfPlayer [.int x]) [] (LAY, m) (qm_ LAY (pu_ (bI (hP x)) m)) := by
  rw [← bI_c hP_is]
  exact T_gh_isHalfPlayer
set_option maxHeartbeats 400000 in
theorem hP_n {q : Nat} (hq : q < 2 ^ 31) : hP (nI q) ↔ (q = 1 ∨ q = 2) := by
  constructor
  · rintro ⟨g, hg, e⟩
    have := (nI_eq hq (by omega)).mp e
    omega
  · rintro (rfl | rfl)
    · exact ⟨0, by omega, rfl⟩
    · exact ⟨1, by omega, rfl⟩
def pG (m S : Mm) (x y z : Int32) : Option Value → Mm → Prop := fun v m' => (∃ r b s, r < tot S ∧ x = nI r ∧ b < bt S (cA_ S r) ∧ y = nI b ∧ s < 2 ^ (wl S r + 1) ∧ z = nI s ∧ v = some (.int (nI 1)) ∧ m' = wk m (nI (cA_ S r)) (nI (wl S r)) (nI (wp S r)) (nI (wt S r))) ∨ (¬ goo S x y z ∧ v = some (.int (nI 0)) ∧ ∃ c l p t, m' = wk m c l p t)

set_option maxHeartbeats 400000 in
theorem T_gh_told {G : Nat × (Nat → Int32)} {m : Mm} {S : Mm} (h : RC m S) (w : WF S) {x y z : Int32} : Y G M_gh_told (0, 0) 0 (en_ M_gh_told [.ref (0), .int (x), .int (y), .int (z)]) [] (LAY, m) (qm_ LAY (pc_ (sp_told S x y z) m S)) := by
  change Y _ _ _ _ [some (.ref _), some (.int _), some (.int _), some (.int _)] _ _ _
  refine Y_aload_n 0 rfl (pc2 := 1) rfl rfl ?_
  refine Y_iload_n 1 rfl (pc2 := 2) rfl rfl ?_
  refine Y_iload_n 2 rfl (pc2 := 3) rfl rfl ?_
  refine Y_cV 3 rfl (pc2 := 6) rfl ok_gh_hasBeat lk_gh_93 vi_gh_hasBeat ly_gh rfl (by decide) rfl (as := [.int _, .int _]) (rest := []) rfl rfl (T_gh_hasBeat h w) ?_
  rintro _ _ ⟨rfl, rfl⟩
  change Y _ _ _ _ _ [.int _] _ _
  refine Y_if_neb 4 rfl (pc2 := 9) rfl (tgt := 12) (by decide) (fun h6 => ?_) (fun h6 => ?_)
  · obtain ⟨⟨c, hc, rfl⟩, hy⟩ := h6
    rw [nv_nI (by omega)] at hy
    obtain ⟨b, hb, rfl⟩ := hy
    have hn := (w.b c hc).2
    refine Y_iload_n 7 rfl (pc2 := 13) rfl rfl ?_
    refine Y_tsw 8 rfl (n := 3) (by decide) (by decide) rfl (by decide) (tgt := 76) (by decide) (fun h13 => ?_) (fun j hj h13 => ?_)
    · refine Y_ldc 33 rfl (pc2 := 78) rfl kc_gh_75 ?_
      refine Y_iret 34 rfl rfl rfl ⟨rfl, ?_⟩
      exact pc_0 h (by unfold sp_told; rw [cI_f (fun e => h13 e.2.2)]; rfl)
    · have hj2 : j = 0 ∨ j = 1 ∨ j = 2 := by omega
      rcases hj2 with rfl | rfl | rfl
      · change Y _ _ _ 40 _ _ _ _
        subst h13
        refine Y_aload_n 9 rfl (pc2 := 41) rfl rfl ?_
        refine Y_getR 10 rfl (pc2 := 44) rfl fl_gh_25 ly_gh (by decide) rfl rfl (by omega) ?_
        refine Y_iload_n 11 rfl (pc2 := 45) rfl rfl ?_
        refine Y_aald 12 rfl (pc2 := 46) rfl ly_ghC (by decide) (fun _ => rfl) rfl (by omega) (by decide) (ly_ghC_at (by omega)) (by omega) ?_
        refine Y_getR 13 rfl (pc2 := 49) rfl fl_gh_96 (ly_ci (by omega)) (by decide) rfl rfl (by omega) ?_
        refine Y_iload_n 14 rfl (pc2 := 50) rfl rfl ?_
        refine Y_iald 15 rfl (pc2 := 51) rfl (ly_ciN (by omega)) rfl (by omega) (by decide) ?_
        refine Y_top (h.n _ _ (by omega) (by omega)) ?_
        refine Y_iret 16 rfl rfl rfl ⟨rfl, ?_⟩
        exact pc_0 h (by unfold sp_told; rw [cI_t ⟨⟨c, hc, rfl⟩, by rw [nv_nI (by omega)]; exact ⟨b, hb, rfl⟩, ⟨0, by omega, rfl⟩⟩, nv_nI (by omega), nv_nI (by omega)]; rw [if_pos rfl])
      · change Y _ _ _ 52 _ _ _ _
        subst h13
        refine Y_aload_n 17 rfl (pc2 := 53) rfl rfl ?_
        refine Y_getR 18 rfl (pc2 := 56) rfl fl_gh_25 ly_gh (by decide) rfl rfl (by omega) ?_
        refine Y_iload_n 19 rfl (pc2 := 57) rfl rfl ?_
        refine Y_aald 20 rfl (pc2 := 58) rfl ly_ghC (by decide) (fun _ => rfl) rfl (by omega) (by decide) (ly_ghC_at (by omega)) (by omega) ?_
        refine Y_getR 21 rfl (pc2 := 61) rfl fl_gh_100 (ly_ci (by omega)) (by decide) rfl rfl (by omega) ?_
        refine Y_iload_n 22 rfl (pc2 := 62) rfl rfl ?_
        refine Y_iald 23 rfl (pc2 := 63) rfl (ly_ciT (by omega)) rfl (by omega) (by decide) ?_
        refine Y_top (h.t _ _ (by omega) (by omega)) ?_
        refine Y_iret 24 rfl rfl rfl ⟨rfl, ?_⟩
        exact pc_0 h (by unfold sp_told; rw [cI_t ⟨⟨c, hc, rfl⟩, by rw [nv_nI (by omega)]; exact ⟨b, hb, rfl⟩, ⟨1, by omega, rfl⟩⟩, nv_nI (by omega), nv_nI (by omega)]; rw [if_neg (by decide), if_pos rfl])
      · change Y _ _ _ 64 _ _ _ _
        subst h13
        refine Y_aload_n 25 rfl (pc2 := 65) rfl rfl ?_
        refine Y_getR 26 rfl (pc2 := 68) rfl fl_gh_25 ly_gh (by decide) rfl rfl (by omega) ?_
        refine Y_iload_n 27 rfl (pc2 := 69) rfl rfl ?_
        refine Y_aald 28 rfl (pc2 := 70) rfl ly_ghC (by decide) (fun _ => rfl) rfl (by omega) (by decide) (ly_ghC_at (by omega)) (by omega) ?_
        refine Y_getR 29 rfl (pc2 := 73) rfl fl_gh_103 (ly_ci (by omega)) (by decide) rfl rfl (by omega) ?_
        refine Y_iload_n 30 rfl (pc2 := 74) rfl rfl ?_
        refine Y_iald 31 rfl (pc2 := 75) rfl (ly_ciG (by omega)) rfl (by omega) (by decide) ?_
        refine Y_top (h.g _ _ (by omega) (by omega)) ?_
        refine Y_iret 32 rfl rfl rfl ⟨rfl, ?_⟩
        exact pc_0 h (by unfold sp_told; rw [cI_t ⟨⟨c, hc, rfl⟩, by rw [nv_nI (by omega)]; exact ⟨b, hb, rfl⟩, ⟨2, by omega, rfl⟩⟩, nv_nI (by omega), nv_nI (by omega)]; rw [if_neg (by decide), if_neg (by decide)])
  · refine Y_ldc 5 rfl (pc2 := 11) rfl kc_gh_75 ?_
    refine Y_iret 6 rfl rfl rfl ⟨rfl, ?_⟩
    exact pc_0 h (by unfold sp_told; rw [cI_f (fun e => h6 ⟨e.1, e.2.1⟩)]; rfl)

set_option maxHeartbeats 400000 in
theorem T_gh_isOf {G : Nat × (Nat → Int32)} {m : Mm} {S : Mm} (h : RC m S) (w : WF S) {x y z : Int32} : Y G M_gh_isOf (0, 0) 0 (en_ M_gh_isOf [.ref (0), .int (x), .int (y), .int (z)]) [] (LAY, m) (qm_ LAY (pc_ (sp_isOf S x y z) m S)) := by
  change Y _ _ _ _ [some (.ref _), some (.int _), some (.int _), some (.int _), none] _ _ _
  refine Y_aload_n 0 rfl (pc2 := 1) rfl rfl ?_
  refine Y_iload_n 1 rfl (pc2 := 2) rfl rfl ?_
  refine Y_iload_n 2 rfl (pc2 := 3) rfl rfl ?_
  refine Y_cV 3 rfl (pc2 := 6) rfl ok_gh_hasBeat lk_gh_93 vi_gh_hasBeat ly_gh rfl (by decide) rfl (as := [.int _, .int _]) (rest := []) rfl rfl (T_gh_hasBeat h w) ?_
  rintro _ _ ⟨rfl, rfl⟩
  change Y _ _ _ _ _ [.int _] _ _
  refine Y_if_eqb 4 rfl (pc2 := 9) rfl (tgt := 17) (by decide) (fun h6 => ?_) (fun h6 => ?_)
  · refine Y_ldc 9 rfl (pc2 := 19) rfl kc_gh_75 ?_
    refine Y_iret 10 rfl rfl rfl ⟨rfl, ?_⟩
    first | exact pc_0 h (by unfold sp_isOf; rw [cI_f (fun e => h6 ⟨e.1, e.2.1⟩)]; rfl) | exact pc_0 h (by unfold sp_isOf; rw [cI_f (fun e => h14 e.2.2)]; rfl)
  · refine Y_iload_n 5 rfl (pc2 := 10) rfl rfl ?_
    refine Y_iconst 6 rfl (pc2 := 11) rfl (v := nI 4) (by decide) ?_
    refine Y_cS 7 rfl (pc2 := 14) rfl ok_gh_isBelow lk_gh_80 vs_gh_isBelow (as := [.int _, .int _]) (rest := []) rfl rfl (T_gh_isBelow (by omega)) ?_
    rintro _ _ ⟨rfl, rfl⟩
    change Y _ _ _ _ _ [.int _] _ _
    refine Y_if_neb 8 rfl (pc2 := 17) rfl (tgt := 20) (by decide) (fun h14 => ?_) (fun h14 => ?_)
    · obtain ⟨⟨c, hc, rfl⟩, hy⟩ := h6
      rw [nv_nI (by omega)] at hy
      obtain ⟨b, hb, rfl⟩ := hy
      have hn := (w.b c hc).2
      obtain ⟨k, hk, rfl⟩ := h14
      have hor := w.g (32 * c + b) (by omega)
      have hon := oC_none (by decide) hor
      refine Y_aload_n 11 rfl (pc2 := 21) rfl rfl ?_
      refine Y_getR 12 rfl (pc2 := 24) rfl fl_gh_25 ly_gh (by decide) rfl rfl (by omega) ?_
      refine Y_iload_n 13 rfl (pc2 := 25) rfl rfl ?_
      refine Y_aald 14 rfl (pc2 := 26) rfl ly_ghC (by decide) (fun _ => rfl) rfl (by omega) (by decide) (ly_ghC_at (by omega)) (by omega) ?_
      refine Y_getR 15 rfl (pc2 := 29) rfl fl_gh_103 (ly_ci (by omega)) (by decide) rfl rfl (by omega) ?_
      refine Y_iload_n 16 rfl (pc2 := 30) rfl rfl ?_
      refine Y_iald 17 rfl (pc2 := 31) rfl (ly_ciG (by omega)) rfl (by omega) (by decide) ?_
      refine Y_top (h.g _ _ (by omega) (by omega)) ?_
      refine Y_istore 18 rfl (pc2 := 33) rfl (Nat.le_of_ble_eq_true rfl) (ls2 := [some (.ref _), some (.int _), some (.int _), some (.int _), some (.int _)]) rfl ?_
      refine Y_iload 19 rfl (pc2 := 35) rfl rfl ?_
      refine Y_ldc 20 rfl (pc2 := 37) rfl kc_gh_84 ?_
      refine Y_icmp_ne 21 rfl (pc2 := 40) rfl (tgt := 43) (by decide) (fun h37 => ?_) (fun h37 => ?_)
      · have hneg := mt hon.mpr h37
        rcases hor with e0 | ⟨g, hg, e0⟩
        · exact absurd (by rw [e0]; decide) hneg
        rw [oC_id hneg, e0]
        refine Y_iload 24 rfl (pc2 := 45) rfl rfl ?_
        refine Y_iload_n 25 rfl (pc2 := 46) rfl rfl ?_
        refine Y_cS 26 rfl (pc2 := 49) rfl ok_gh_standsUnder lk_gh_106 vs_gh_standsUnder (as := [.int _, .int _]) (rest := []) rfl rfl (T_gh_standsUnder (by omega) (by omega)) ?_
        rintro _ _ ⟨rfl, rfl⟩
        change Y _ _ _ _ _ [.int _] _ _
        refine Y_if_eqb 27 rfl (pc2 := 52) rfl (tgt := 56) (by decide) (fun h49 => ?_) (fun h49 => ?_)
        · refine Y_iconst 30 rfl (pc2 := 57) rfl (v := nI 0) (by decide) ?_
          refine Y_iret 31 rfl rfl rfl ⟨rfl, ?_⟩
          exact pc_0 h (by unfold sp_isOf; rw [cI_t ⟨⟨c, hc, rfl⟩, by rw [nv_nI (by omega)]; exact ⟨b, hb, rfl⟩, ⟨k, by omega, rfl⟩⟩, nv_nI (by omega), nv_nI (by omega)]; rw [if_neg hneg, e0, nv_nI (by omega), nv_nI (by omega)]; first | (rw [bI_t h49]; rfl) | (rw [bI_f h49]; rfl))
        · refine Y_iconst 28 rfl (pc2 := 53) rfl (v := nI 1) (by decide) ?_
          refine Y_goto 29 rfl (pc2 := 57) (by decide) ?_
          refine Y_iret 31 rfl rfl rfl ⟨rfl, ?_⟩
          exact pc_0 h (by unfold sp_isOf; rw [cI_t ⟨⟨c, hc, rfl⟩, by rw [nv_nI (by omega)]; exact ⟨b, hb, rfl⟩, ⟨k, by omega, rfl⟩⟩, nv_nI (by omega), nv_nI (by omega)]; rw [if_neg hneg, e0, nv_nI (by omega), nv_nI (by omega)]; first | (rw [bI_t h49]; rfl) | (rw [bI_f h49]; rfl))
      · refine Y_ldc 22 rfl (pc2 := 42) rfl kc_gh_88 ?_
        refine Y_iret 23 rfl rfl rfl ⟨rfl, ?_⟩
        exact pc_0 h (by unfold sp_isOf; rw [cI_t ⟨⟨c, hc, rfl⟩, by rw [nv_nI (by omega)]; exact ⟨b, hb, rfl⟩, ⟨k, by omega, rfl⟩⟩, nv_nI (by omega), nv_nI (by omega)]; rw [if_pos (hon.mp (by first | exact h37 | exact Classical.byContradiction h37))]; rfl)
    · refine Y_ldc 9 rfl (pc2 := 19) rfl kc_gh_75 ?_
      refine Y_iret 10 rfl rfl rfl ⟨rfl, ?_⟩
      first | exact pc_0 h (by unfold sp_isOf; rw [cI_f (fun e => h6 ⟨e.1, e.2.1⟩)]; rfl) | exact pc_0 h (by unfold sp_isOf; rw [cI_f (fun e => h14 e.2.2)]; rfl)

set_option maxHeartbeats 400000 in
theorem T_gh_wrong {G : Nat × (Nat → Int32)} {m : Mm} {S : Mm} (h : RC m S) (w : WF S) {x y : Int32} : Y G M_gh_wrong (0, 0) 0 (en_ M_gh_wrong [.ref (0), .int (x), .int (y)]) [] (LAY, m) (qm_ LAY (pc_ (sp_wrong S x y) m S)) := by
  change Y _ _ _ _ [some (.ref _), some (.int _), some (.int _)] _ _ _
  refine Y_iload_n 0 rfl (pc2 := 1) rfl rfl ?_
  refine Y_iload_n 1 rfl (pc2 := 2) rfl rfl ?_
  refine Y_cS 2 rfl (pc2 := 5) rfl ok_gh_hasFigure lk_gh_127 vs_gh_hasFigure (as := [.int _, .int _]) (rest := []) rfl rfl T_gh_hasFigure ?_
  rintro _ _ ⟨rfl, rfl⟩
  change Y _ _ _ _ _ [.int _] _ _
  refine Y_if_neb 3 rfl (pc2 := 8) rfl (tgt := 11) (by decide) (fun h5 => ?_) (fun h5 => ?_)
  · obtain ⟨⟨l, hl, rfl⟩, ⟨f, hf, rfl⟩⟩ := h5
    refine Y_aload_n 6 rfl (pc2 := 12) rfl rfl ?_
    refine Y_getR 7 rfl (pc2 := 15) rfl fl_gh_31 ly_gh (by decide) rfl rfl (by omega) ?_
    refine Y_iload_n 8 rfl (pc2 := 16) rfl rfl ?_
    refine Y_aald 9 rfl (pc2 := 17) rfl ly_ghL (by decide) (fun _ => rfl) rfl (by omega) (by decide) (ly_ghL_at (by omega)) (by omega) ?_
    refine Y_getR 10 rfl (pc2 := 20) rfl fl_gh_117 (ly_le (by omega)) (by decide) rfl rfl (by omega) ?_
    refine Y_iload_n 11 rfl (pc2 := 21) rfl rfl ?_
    refine Y_aald 12 rfl (pc2 := 22) rfl (ly_leF (by omega)) (by decide) (fun _ => rfl) rfl (by omega) (by decide) (ly_leF_at (by omega)) (by omega) ?_
    refine Y_cV 13 rfl (pc2 := 25) rfl ok_fi_firstWrongStep lk_gh_154 vi_fi_firstWrongStep (ly_fi (by omega) (by omega)) rfl (by decide) rfl (as := []) (rest := []) rfl rfl (T_fi_firstWrongStep h w (by omega) (by omega)) ?_
    rintro _ _ ⟨rfl, rfl⟩
    change Y _ _ _ _ _ [.int _] _ _
    refine Y_iret 14 rfl rfl rfl ⟨rfl, ?_⟩
    exact pc_0 h (by unfold sp_wrong; rw [cI_t ⟨⟨l, hl, rfl⟩, ⟨f, hf, rfl⟩⟩, nv_nI (by omega), nv_nI (by omega)])
  · refine Y_ldc 4 rfl (pc2 := 10) rfl kc_gh_75 ?_
    refine Y_iret 5 rfl rfl rfl ⟨rfl, ?_⟩
    exact pc_0 h (by unfold sp_wrong; rw [cI_f h5]; rfl)

set_option maxHeartbeats 400000 in
theorem T_gh_round {G : Nat × (Nat → Int32)} {m : Mm} {S : Mm} (h : RC m S) (w : WF S) {x y : Int32} : Y G M_gh_round (0, 0) 0 (en_ M_gh_round [.ref (0), .int (x), .int (y)]) [] (LAY, m) (qm_ LAY (pc_ (sp_round S x y) m S)) := by
  change Y _ _ _ _ [some (.ref _), some (.int _), some (.int _)] _ _ _
  have h144 := tot_le w
  refine Y_aload_n 0 rfl (pc2 := 1) rfl rfl ?_
  refine Y_getR 1 rfl (pc2 := 4) rfl fl_gh_45 ly_gh (by decide) rfl rfl (by omega) ?_
  refine Y_aload_n 2 rfl (pc2 := 5) rfl rfl ?_
  refine Y_getR 3 rfl (pc2 := 8) rfl fl_gh_38 ly_gh (by decide) rfl rfl (by omega) ?_
  refine Y_aload_n 4 rfl (pc2 := 9) rfl rfl ?_
  refine Y_getR 5 rfl (pc2 := 12) rfl fl_gh_25 ly_gh (by decide) rfl rfl (by omega) ?_
  refine Y_iload_n 6 rfl (pc2 := 13) rfl rfl ?_
  refine Y_cV 7 rfl (pc2 := 16) rfl ok_wa_reaches lk_gh_184 vi_wa_reaches ly_wa rfl (by decide) rfl (as := [.ref _, .ref _, .int _]) (rest := []) rfl rfl (T_wa_reaches h w) ?_
  rintro _ _ (⟨r, hr, rfl, rfl, rfl⟩ | ⟨hn, rfl, c0, l0, p0, rfl⟩)
  · change Y _ _ _ _ _ [.int _] _ _
    have hL := wl_lt w r hr
    have hp16 := w.p.2
    have hC := (w.c (wp S r) (by omega)).2
    have hB := (w.b (pC S (wp S r)) hC).2
    have hZ := sz_16 hL.1
    refine Y_if_nen 8 rfl (pc2 := 19) rfl (tgt := 22) (by decide) (by decide) (fun _ => ?_) (fun hd => absurd hd (by decide))
    refine Y_iload_n 11 rfl (pc2 := 23) rfl rfl ?_
    refine Y_tsw 12 rfl (n := 4) (by decide) (by decide) rfl (by decide) (tgt := 84) (by decide) (fun h23 => ?_) (fun j hj h23 => ?_)
    · refine Y_ldc 29 rfl (pc2 := 86) rfl kc_gh_75 ?_
      refine Y_iret 30 rfl rfl rfl ⟨rfl, ?_⟩
      first | omega | exact pc_w h (by unfold sp_round; rw [cI_f (fun e => h23 e.2)]; rfl)
    · have hj2 : j = 0 ∨ j = 1 ∨ j = 2 ∨ j = 3 := by omega
      rcases hj2 with rfl | rfl | rfl | rfl
      · change Y _ _ _ 52 _ _ _ _
        subst h23
        refine Y_aload_n 13 rfl (pc2 := 53) rfl rfl ?_
        refine Y_getR 14 rfl (pc2 := 56) rfl fl_gh_45 ly_gh (by decide) rfl rfl (by omega) ?_
        refine Y_getI 15 rfl (pc2 := 59) rfl fl_gh_188 ly_wa (by decide) rfl ?_
        refine Y_top (wk_c) ?_
        refine Y_iret 16 rfl rfl rfl ⟨rfl, ?_⟩
        first | omega | exact pc_w h (by unfold sp_round; rw [cI_t ⟨⟨r, hr, rfl⟩, ⟨0, by omega, rfl⟩⟩, nv_nI (by omega)]; rfl)
      · change Y _ _ _ 60 _ _ _ _
        subst h23
        refine Y_aload_n 17 rfl (pc2 := 61) rfl rfl ?_
        refine Y_getR 18 rfl (pc2 := 64) rfl fl_gh_45 ly_gh (by decide) rfl rfl (by omega) ?_
        refine Y_getI 19 rfl (pc2 := 67) rfl fl_gh_191 ly_wa (by decide) rfl ?_
        refine Y_top (wk_l) ?_
        refine Y_iret 20 rfl rfl rfl ⟨rfl, ?_⟩
        first | omega | exact pc_w h (by unfold sp_round; rw [cI_t ⟨⟨r, hr, rfl⟩, ⟨1, by omega, rfl⟩⟩, nv_nI (by omega)]; rfl)
      · change Y _ _ _ 68 _ _ _ _
        subst h23
        refine Y_aload_n 21 rfl (pc2 := 69) rfl rfl ?_
        refine Y_getR 22 rfl (pc2 := 72) rfl fl_gh_45 ly_gh (by decide) rfl rfl (by omega) ?_
        refine Y_getI 23 rfl (pc2 := 75) rfl fl_gh_194 ly_wa (by decide) rfl ?_
        refine Y_top (wk_p) ?_
        refine Y_iret 24 rfl rfl rfl ⟨rfl, ?_⟩
        first | omega | exact pc_w h (by unfold sp_round; rw [cI_t ⟨⟨r, hr, rfl⟩, ⟨2, by omega, rfl⟩⟩, nv_nI (by omega)]; rfl)
      · change Y _ _ _ 76 _ _ _ _
        subst h23
        refine Y_aload_n 25 rfl (pc2 := 77) rfl rfl ?_
        refine Y_getR 26 rfl (pc2 := 80) rfl fl_gh_45 ly_gh (by decide) rfl rfl (by omega) ?_
        refine Y_getI 27 rfl (pc2 := 83) rfl fl_gh_197 ly_wa (by decide) rfl ?_
        refine Y_top (wk_t) ?_
        refine Y_iret 28 rfl rfl rfl ⟨rfl, ?_⟩
        first | omega | exact pc_w h (by unfold sp_round; rw [cI_t ⟨⟨r, hr, rfl⟩, ⟨3, by omega, rfl⟩⟩, nv_nI (by omega)]; rfl)
  · change Y _ _ _ _ _ [.int _] _ _
    refine Y_if_nen 8 rfl (pc2 := 19) rfl (tgt := 22) (by decide) (by decide) (fun hd => absurd hd (by decide)) (fun _ => ?_)
    refine Y_ldc 9 rfl (pc2 := 21) rfl kc_gh_75 ?_
    refine Y_iret 10 rfl rfl rfl ⟨rfl, ?_⟩
    first | omega | exact pc_w h (by unfold sp_round; rw [cI_f (fun e => hn e.1)]; rfl)

set_option maxHeartbeats 400000 in
theorem T_gh_ticks {G : Nat × (Nat → Int32)} {m : Mm} {S : Mm} (h : RC m S) (w : WF S) : Y G M_gh_ticks (0, 0) 0 (en_ M_gh_ticks [.ref (0)]) [] (LAY, m) (qm_ LAY (pc_ (sp_ticks S) m S)) := by
  change Y _ _ _ _ [some (.ref _)] _ _ _
  refine Y_aload_n 0 rfl (pc2 := 1) rfl rfl ?_
  refine Y_getR 1 rfl (pc2 := 4) rfl fl_gh_45 ly_gh (by decide) rfl rfl (by omega) ?_
  refine Y_aload_n 2 rfl (pc2 := 5) rfl rfl ?_
  refine Y_getR 3 rfl (pc2 := 8) rfl fl_gh_38 ly_gh (by decide) rfl rfl (by omega) ?_
  refine Y_aload_n 4 rfl (pc2 := 9) rfl rfl ?_
  refine Y_getR 5 rfl (pc2 := 12) rfl fl_gh_25 ly_gh (by decide) rfl rfl (by omega) ?_
  refine Y_ldc 6 rfl (pc2 := 14) rfl kc_gh_84 ?_
  refine Y_cV 7 rfl (pc2 := 17) rfl ok_wa_reaches lk_gh_184 vi_wa_reaches ly_wa rfl (by decide) rfl (as := [.ref _, .ref _, .int _]) (rest := []) rfl rfl (T_wa_reaches h w) ?_
  rintro _ _ (⟨r, hr, e, rfl, rfl⟩ | ⟨hn, rfl, c0, l0, p0, rfl⟩)
  · change Y _ _ _ _ _ [.int _] _ _
    have h144 := tot_le w
    exact absurd e.symm (nI_none (by omega))
  · change Y _ _ _ _ _ [.int _] _ _
    refine Y_pop 8 rfl (pc2 := 18) rfl rfl ?_
    refine Y_aload_n 9 rfl (pc2 := 19) rfl rfl ?_
    refine Y_getR 10 rfl (pc2 := 22) rfl fl_gh_45 ly_gh (by decide) rfl rfl (by omega) ?_
    refine Y_getI 11 rfl (pc2 := 25) rfl fl_gh_197 ly_wa (by decide) rfl ?_
    refine Y_top (wk_t) ?_
    refine Y_iret 12 rfl rfl rfl ⟨rfl, ?_⟩
    exact pc_w h rfl

set_option maxHeartbeats 400000 in
theorem T_gh_goesTo {G : Nat × (Nat → Int32)} {m : Mm} {S : Mm} (h : RC m S) (w : WF S) {x y z : Int32} : Y G M_gh_goesTo (0, 0) 0 (en_ M_gh_goesTo [.ref (0), .int (x), .int (y), .int (z)]) [] (LAY, m) (qm_ LAY (pG m S x y z)) := by
  change Y _ _ _ _ [some (.ref _), some (.int _), some (.int _), some (.int _)] _ _ _
  have h144 := tot_le w
  refine Y_aload_n 0 rfl (pc2 := 1) rfl rfl ?_
  refine Y_getR 1 rfl (pc2 := 4) rfl fl_gh_45 ly_gh (by decide) rfl rfl (by omega) ?_
  refine Y_aload_n 2 rfl (pc2 := 5) rfl rfl ?_
  refine Y_getR 3 rfl (pc2 := 8) rfl fl_gh_38 ly_gh (by decide) rfl rfl (by omega) ?_
  refine Y_aload_n 4 rfl (pc2 := 9) rfl rfl ?_
  refine Y_getR 5 rfl (pc2 := 12) rfl fl_gh_25 ly_gh (by decide) rfl rfl (by omega) ?_
  refine Y_iload_n 6 rfl (pc2 := 13) rfl rfl ?_
  refine Y_cV 7 rfl (pc2 := 16) rfl ok_wa_reaches lk_gh_184 vi_wa_reaches ly_wa rfl (by decide) rfl (as := [.ref _, .ref _, .int _]) (rest := []) rfl rfl (T_wa_reaches h w) ?_
  rintro _ _ (⟨r, hr, rfl, rfl, rfl⟩ | ⟨hn, rfl, c0, l0, p0, rfl⟩)
  · change Y _ _ _ _ _ [.int _] _ _
    have hL := wl_lt w r hr
    have hp16 := w.p.2
    have hC := (w.c (wp S r) (by omega)).2
    have hB := (w.b (pC S (wp S r)) hC).2
    have hZ := sz_16 hL.1
    refine Y_if_eqn 8 rfl (pc2 := 19) rfl (tgt := 67) (by decide) (by decide) (fun hd => absurd hd (by decide)) (fun _ => ?_)
    refine Y_iload_n 9 rfl (pc2 := 20) rfl rfl ?_
    refine Y_aload_n 10 rfl (pc2 := 21) rfl rfl ?_
    refine Y_getR 11 rfl (pc2 := 24) rfl fl_gh_25 ly_gh (by decide) rfl rfl (by omega) ?_
    refine Y_aload_n 12 rfl (pc2 := 25) rfl rfl ?_
    refine Y_getR 13 rfl (pc2 := 28) rfl fl_gh_45 ly_gh (by decide) rfl rfl (by omega) ?_
    refine Y_getI 14 rfl (pc2 := 31) rfl fl_gh_188 ly_wa (by decide) rfl ?_
    refine Y_top (wk_c) ?_
    refine Y_aald 15 rfl (pc2 := 32) rfl ly_ghC (by decide) (fun _ => rfl) rfl (by omega) (by decide) (ly_ghC_at (by omega)) (by omega) ?_
    refine Y_getI 16 rfl (pc2 := 35) rfl fl_gh_270 (ly_ci (by omega)) (by decide) rfl ?_
    refine Y_top (((RC_wk h).b _ (by omega)).trans (w.b _ (by omega)).1) ?_
    refine Y_cS 17 rfl (pc2 := 38) rfl ok_gh_isBelow lk_gh_80 vs_gh_isBelow (as := [.int _, .int _]) (rest := []) rfl rfl (T_gh_isBelow (by omega)) ?_
    rintro _ _ ⟨rfl, rfl⟩
    change Y _ _ _ _ _ [.int _] _ _
    refine Y_if_eqb 18 rfl (pc2 := 41) rfl (tgt := 67) (by decide) (fun h38 => ?_) (fun h38 => ?_)
    · refine Y_iconst 31 rfl (pc2 := 68) rfl (v := nI 0) (by decide) ?_
      refine Y_iret 32 rfl rfl rfl ⟨rfl, ?_⟩
      first
        | exact Or.inl ⟨r, b, s, hr, rfl, hb, rfl, hs, rfl, rfl, rfl⟩
        | exact Or.inr ⟨fun e => hn e.1, rfl, _, _, _, _, rfl⟩
        | exact Or.inr ⟨fun e => h38 (by have q := e.2.1; rw [nv_nI (by omega)] at q; exact q), rfl, _, _, _, _, rfl⟩
        | exact Or.inr ⟨fun e => h60 (by have q := e.2.2; rw [nv_nI (by omega)] at q; exact q), rfl, _, _, _, _, rfl⟩
    · obtain ⟨b, hb, rfl⟩ := h38
      refine Y_iload_n 19 rfl (pc2 := 42) rfl rfl ?_
      refine Y_aload_n 20 rfl (pc2 := 43) rfl rfl ?_
      refine Y_getR 21 rfl (pc2 := 46) rfl fl_gh_31 ly_gh (by decide) rfl rfl (by omega) ?_
      refine Y_aload_n 22 rfl (pc2 := 47) rfl rfl ?_
      refine Y_getR 23 rfl (pc2 := 50) rfl fl_gh_45 ly_gh (by decide) rfl rfl (by omega) ?_
      refine Y_getI 24 rfl (pc2 := 53) rfl fl_gh_191 ly_wa (by decide) rfl ?_
      refine Y_top (wk_l) ?_
      refine Y_aald 25 rfl (pc2 := 54) rfl ly_ghL (by decide) (fun _ => rfl) rfl (by omega) (by decide) (ly_ghL_at (by omega)) (by omega) ?_
      refine Y_getI 26 rfl (pc2 := 57) rfl fl_gh_138 (ly_le (by omega)) (by decide) rfl ?_
      refine Y_top ((RC_wk h).l _ (by omega)) ?_
      refine Y_cS 27 rfl (pc2 := 60) rfl ok_gh_isBelow lk_gh_80 vs_gh_isBelow (as := [.int _, .int _]) (rest := []) rfl rfl (T_gh_isBelow (by omega)) ?_
      rintro _ _ ⟨rfl, rfl⟩
      change Y _ _ _ _ _ [.int _] _ _
      refine Y_if_eqb 28 rfl (pc2 := 63) rfl (tgt := 67) (by decide) (fun h60 => ?_) (fun h60 => ?_)
      · refine Y_iconst 31 rfl (pc2 := 68) rfl (v := nI 0) (by decide) ?_
        refine Y_iret 32 rfl rfl rfl ⟨rfl, ?_⟩
        first
          | exact Or.inl ⟨r, b, s, hr, rfl, hb, rfl, hs, rfl, rfl, rfl⟩
          | exact Or.inr ⟨fun e => hn e.1, rfl, _, _, _, _, rfl⟩
          | exact Or.inr ⟨fun e => h38 (by have q := e.2.1; rw [nv_nI (by omega)] at q; exact q), rfl, _, _, _, _, rfl⟩
          | exact Or.inr ⟨fun e => h60 (by have q := e.2.2; rw [nv_nI (by omega)] at q; exact q), rfl, _, _, _, _, rfl⟩
      · obtain ⟨s, hs, rfl⟩ := h60
        refine Y_iconst 29 rfl (pc2 := 64) rfl (v := nI 1) (by decide) ?_
        refine Y_goto 30 rfl (pc2 := 68) (by decide) ?_
        refine Y_iret 32 rfl rfl rfl ⟨rfl, ?_⟩
        first
          | exact Or.inl ⟨r, b, s, hr, rfl, hb, rfl, hs, rfl, rfl, rfl⟩
          | exact Or.inr ⟨fun e => hn e.1, rfl, _, _, _, _, rfl⟩
          | exact Or.inr ⟨fun e => h38 (by have q := e.2.1; rw [nv_nI (by omega)] at q; exact q), rfl, _, _, _, _, rfl⟩
          | exact Or.inr ⟨fun e => h60 (by have q := e.2.2; rw [nv_nI (by omega)] at q; exact q), rfl, _, _, _, _, rfl⟩
  · change Y _ _ _ _ _ [.int _] _ _
    refine Y_if_eqn 8 rfl (pc2 := 19) rfl (tgt := 67) (by decide) (by decide) (fun _ => ?_) (fun hd => absurd hd (by decide))
    refine Y_iconst 31 rfl (pc2 := 68) rfl (v := nI 0) (by decide) ?_
    refine Y_iret 32 rfl rfl rfl ⟨rfl, ?_⟩
    first
      | exact Or.inl ⟨r, b, s, hr, rfl, hb, rfl, hs, rfl, rfl, rfl⟩
      | exact Or.inr ⟨fun e => hn e.1, rfl, _, _, _, _, rfl⟩
      | exact Or.inr ⟨fun e => h38 (by have q := e.2.1; rw [nv_nI (by omega)] at q; exact q), rfl, _, _, _, _, rfl⟩
      | exact Or.inr ⟨fun e => h60 (by have q := e.2.2; rw [nv_nI (by omega)] at q; exact q), rfl, _, _, _, _, rfl⟩

set_option maxHeartbeats 400000 in
theorem T_gh_plays {G : Nat × (Nat → Int32)} {m : Mm} {S : Mm} (h : RC m S) (w : WF S) {p x y z : Int32} : Y G M_gh_plays (0, 0) 0 (en_ M_gh_plays [.ref (0), .int (p), .int (x), .int (y), .int (z)]) [] (LAY, m) (qm_ LAY (pc_ (sp_plays S p x y z) m S)) := by
  change Y _ _ _ _ [some (.ref _), some (.int _), some (.int _), some (.int _), some (.int _), none] _ _ _
  refine Y_iload_n 0 rfl (pc2 := 1) rfl rfl ?_
  refine Y_iconst 1 rfl (pc2 := 2) rfl (v := nI 4) (by decide) ?_
  refine Y_cS 2 rfl (pc2 := 5) rfl ok_gh_isBelow lk_gh_80 vs_gh_isBelow (as := [.int _, .int _]) (rest := []) rfl rfl (T_gh_isBelow (by omega)) ?_
  rintro _ _ ⟨rfl, rfl⟩
  change Y _ _ _ _ _ [.int _] _ _
  refine Y_if_eqb 3 rfl (pc2 := 8) rfl (tgt := 19) (by decide) (fun h5 => ?_) (fun h5 => ?_)
  · refine Y_ldc 10 rfl (pc2 := 21) rfl kc_gh_75 ?_
    refine Y_iret 11 rfl rfl rfl ⟨rfl, ?_⟩
    first | exact pc_0 h (by unfold sp_plays; rw [cI_f (fun e => h5 e.1)]; rfl) | exact pc_w h (by unfold sp_plays; rw [cI_f (fun e => hn e.2)]; rfl)
  · obtain ⟨q, hq, rfl⟩ := h5
    refine Y_aload_n 4 rfl (pc2 := 9) rfl rfl ?_
    refine Y_iload_n 5 rfl (pc2 := 10) rfl rfl ?_
    refine Y_iload_n 6 rfl (pc2 := 11) rfl rfl ?_
    refine Y_iload 7 rfl (pc2 := 13) rfl rfl ?_
    refine Y_cV 8 rfl (pc2 := 16) rfl ok_gh_goesTo lk_gh_200 vi_gh_goesTo ly_gh rfl (by decide) rfl (as := [.int _, .int _, .int _]) (rest := []) rfl rfl (T_gh_goesTo h w) ?_
    rintro _ _ (⟨r, b, s, hr, rfl, hb, rfl, hs, rfl, rfl, rfl⟩ | ⟨hn, rfl, c0, l0, p0, t0, rfl⟩)
    · change Y _ _ _ _ _ [.int _] _ _
      have h144 := tot_le w
      have hL := wl_lt w r hr
      have hp16 := w.p.2
      have hC : cA_ S r < 4 := (w.c (wp S r) (by omega)).2
      have hB := (w.b (cA_ S r) hC).2
      have hZ := sz_16 hL.1
      have hG : goo S (nI r) (nI b) (nI s) := ⟨⟨r, hr, rfl⟩, by rw [nv_nI (by omega)]; exact ⟨b, hb, rfl⟩, by rw [nv_nI (by omega)]; exact ⟨s, hs, rfl⟩⟩
      refine Y_if_nen 9 rfl (pc2 := 19) rfl (tgt := 22) (by decide) (by decide) (fun _ => ?_) (fun hd => absurd hd (by decide))
      refine Y_aload_n 12 rfl (pc2 := 23) rfl rfl ?_
      refine Y_getR 13 rfl (pc2 := 26) rfl fl_gh_25 ly_gh (by decide) rfl rfl (by omega) ?_
      refine Y_aload_n 14 rfl (pc2 := 27) rfl rfl ?_
      refine Y_getR 15 rfl (pc2 := 30) rfl fl_gh_45 ly_gh (by decide) rfl rfl (by omega) ?_
      refine Y_getI 16 rfl (pc2 := 33) rfl fl_gh_188 ly_wa (by decide) rfl ?_
      refine Y_top (wk_c) ?_
      refine Y_aald 17 rfl (pc2 := 34) rfl ly_ghC (by decide) (fun _ => rfl) rfl (by omega) (by decide) (ly_ghC_at (by omega)) (by omega) ?_
      refine Y_astore 18 rfl (pc2 := 36) rfl (Nat.le_of_ble_eq_true rfl) (ls2 := [some (.ref _), some (.int _), some (.int _), some (.int _), some (.int _), some (.ref _)]) rfl ?_
      refine Y_iload_n 19 rfl (pc2 := 37) rfl rfl ?_
      refine Y_cS 20 rfl (pc2 := 40) rfl ok_gh_isHalfPlayer lk_gh_203 vs_gh_isHalfPlayer (as := [.int _]) (rest := []) rfl rfl T_gh_isHalf ?_
      rintro _ _ ⟨rfl, rfl⟩
      change Y _ _ _ _ _ [.int _] _ _
      rw [bI_c (hP_n (by omega))]
      refine Y_if_eqb 21 rfl (pc2 := 43) rfl (tgt := 67) (by decide) (fun h40 => ?_) (fun h40 => ?_)
      · refine Y_iload 36 rfl (pc2 := 69) rfl rfl ?_
        refine Y_if_len 37 rfl (pc2 := 72) rfl (tgt := 75) (by decide) (by omega) (fun h69 => ?_) (fun h69 => ?_)
        · refine Y_iload_n 40 rfl (pc2 := 76) rfl rfl ?_
          refine Y_if_nen 41 rfl (pc2 := 79) rfl (tgt := 89) (by decide) (by omega) (fun h76 => ?_) (fun h76 => ?_)
          · refine Y_aload 47 rfl (pc2 := 91) rfl rfl ?_
            refine Y_getR 48 rfl (pc2 := 94) rfl fl_gh_103 (ly_ci (by omega)) (by decide) rfl rfl (by omega) ?_
            refine Y_iload_n 49 rfl (pc2 := 95) rfl rfl ?_
            refine Y_iald 50 rfl (pc2 := 96) rfl (ly_ciG (by omega)) rfl (by omega) (by decide) ?_
            refine Y_top ((RC_wk h).g _ _ (by omega) (by omega)) ?_
            refine Y_iret 51 rfl rfl rfl ⟨rfl, ?_⟩
            first | exact pc_w h (by unfold sp_plays; rw [cI_t ⟨⟨q, hq, rfl⟩, hG⟩, nv_nI (k := q) (by omega)]; rw [nv_nI (k := r) (by omega), nv_nI (k := b) (by omega), nv_nI (k := s) (by omega)]; rw [if_neg h40, if_neg (by omega), if_pos h76]) | exact pc_w h (by unfold sp_plays; rw [cI_t ⟨⟨q, hq, rfl⟩, hG⟩, nv_nI (k := q) (by omega)]; rw [nv_nI (k := r) (by omega), nv_nI (k := b) (by omega), nv_nI (k := s) (by omega)]; rw [if_neg h40, if_neg (by omega), if_neg h76])
          · refine Y_aload 42 rfl (pc2 := 81) rfl rfl ?_
            refine Y_getR 43 rfl (pc2 := 84) rfl fl_gh_96 (ly_ci (by omega)) (by decide) rfl rfl (by omega) ?_
            refine Y_iload_n 44 rfl (pc2 := 85) rfl rfl ?_
            refine Y_iald 45 rfl (pc2 := 86) rfl (ly_ciN (by omega)) rfl (by omega) (by decide) ?_
            refine Y_top ((RC_wk h).n _ _ (by omega) (by omega)) ?_
            refine Y_goto 46 rfl (pc2 := 96) (by decide) ?_
            refine Y_iret 51 rfl rfl rfl ⟨rfl, ?_⟩
            first | exact pc_w h (by unfold sp_plays; rw [cI_t ⟨⟨q, hq, rfl⟩, hG⟩, nv_nI (k := q) (by omega)]; rw [nv_nI (k := r) (by omega), nv_nI (k := b) (by omega), nv_nI (k := s) (by omega)]; rw [if_neg h40, if_neg (by omega), if_pos h76]) | exact pc_w h (by unfold sp_plays; rw [cI_t ⟨⟨q, hq, rfl⟩, hG⟩, nv_nI (k := q) (by omega)]; rw [nv_nI (k := r) (by omega), nv_nI (k := b) (by omega), nv_nI (k := s) (by omega)]; rw [if_neg h40, if_neg (by omega), if_neg h76])
        · refine Y_ldc 38 rfl (pc2 := 74) rfl kc_gh_84 ?_
          refine Y_iret 39 rfl rfl rfl ⟨rfl, ?_⟩
          exact pc_w h (by unfold sp_plays; rw [cI_t ⟨⟨q, hq, rfl⟩, hG⟩, nv_nI (k := q) (by omega)]; rw [nv_nI (k := r) (by omega), nv_nI (k := b) (by omega), nv_nI (k := s) (by omega)]; rw [if_neg h40, if_pos (by omega)]; rfl)
      · refine Y_aload 22 rfl (pc2 := 45) rfl rfl ?_
        refine Y_aload_n 23 rfl (pc2 := 46) rfl rfl ?_
        refine Y_getR 24 rfl (pc2 := 49) rfl fl_gh_31 ly_gh (by decide) rfl rfl (by omega) ?_
        refine Y_aload_n 25 rfl (pc2 := 50) rfl rfl ?_
        refine Y_getR 26 rfl (pc2 := 53) rfl fl_gh_45 ly_gh (by decide) rfl rfl (by omega) ?_
        refine Y_getI 27 rfl (pc2 := 56) rfl fl_gh_191 ly_wa (by decide) rfl ?_
        refine Y_top (wk_l) ?_
        refine Y_aald 28 rfl (pc2 := 57) rfl ly_ghL (by decide) (fun _ => rfl) rfl (by omega) (by decide) (ly_ghL_at (by omega)) (by omega) ?_
        refine Y_iload_n 29 rfl (pc2 := 58) rfl rfl ?_
        refine Y_iconst 30 rfl (pc2 := 59) rfl (v := nI 1) (by decide) ?_
        refine Y_isub 31 rfl (pc2 := 60) rfl ?_
        refine Y_top (nI_sub (by omega)) ?_
        refine Y_iload_n 32 rfl (pc2 := 61) rfl rfl ?_
        refine Y_iload 33 rfl (pc2 := 63) rfl rfl ?_
        refine Y_cS 34 rfl (pc2 := 66) rfl ok_gh_keyAt lk_gh_206 vs_gh_keyAt (as := [.ref _, .ref _, .int _, .int _, .int _]) (rest := []) rfl rfl (T_gh_keyAt (RC_wk h) w (by omega) (by omega) (by omega) (by omega) (by omega)) ?_
        rintro _ _ ⟨rfl, rfl⟩
        change Y _ _ _ _ _ [.int _] _ _
        refine Y_iret 35 rfl rfl rfl ⟨rfl, ?_⟩
        exact pc_w h (by unfold sp_plays; rw [cI_t ⟨⟨q, hq, rfl⟩, hG⟩, nv_nI (k := q) (by omega)]; rw [nv_nI (k := r) (by omega), nv_nI (k := b) (by omega), nv_nI (k := s) (by omega)]; rw [if_pos h40])
    · change Y _ _ _ _ _ [.int _] _ _
      refine Y_if_nen 9 rfl (pc2 := 19) rfl (tgt := 22) (by decide) (by decide) (fun hd => absurd hd (by decide)) (fun _ => ?_)
      refine Y_ldc 10 rfl (pc2 := 21) rfl kc_gh_75 ?_
      refine Y_iret 11 rfl rfl rfl ⟨rfl, ?_⟩
      first | exact pc_0 h (by unfold sp_plays; rw [cI_f (fun e => h5 e.1)]; rfl) | exact pc_w h (by unfold sp_plays; rw [cI_f (fun e => hn e.2)]; rfl)

set_option maxHeartbeats 400000 in
theorem T_gh_damps {G : Nat × (Nat → Int32)} {m : Mm} {S : Mm} (h : RC m S) (w : WF S) {p x y z : Int32} : Y G M_gh_damps (0, 0) 0 (en_ M_gh_damps [.ref (0), .int (p), .int (x), .int (y), .int (z)]) [] (LAY, m) (qm_ LAY (pc_ (sp_damps S p x y z) m S)) := by
  change Y _ _ _ _ [some (.ref _), some (.int _), some (.int _), some (.int _), some (.int _), none, none] _ _ _
  refine Y_iload_n 0 rfl (pc2 := 1) rfl rfl ?_
  refine Y_cS 1 rfl (pc2 := 4) rfl ok_gh_isHalfPlayer lk_gh_203 vs_gh_isHalfPlayer (as := [.int _]) (rest := []) rfl rfl T_gh_isHalf ?_
  rintro _ _ ⟨rfl, rfl⟩
  change Y _ _ _ _ _ [.int _] _ _
  refine Y_if_eqb 2 rfl (pc2 := 7) rfl (tgt := 18) (by decide) (fun h4 => ?_) (fun h4 => ?_)
  · refine Y_ldc 9 rfl (pc2 := 20) rfl kc_gh_75 ?_
    refine Y_iret 10 rfl rfl rfl ⟨rfl, ?_⟩
    first | exact pc_0 h (by unfold sp_damps; rw [cI_f (fun e => h4 e.1)]; rfl) | exact pc_w h (by unfold sp_damps; rw [cI_f (fun e => hn e.2)]; rfl)
  · obtain ⟨g, hg, rfl⟩ := h4
    refine Y_aload_n 3 rfl (pc2 := 8) rfl rfl ?_
    refine Y_iload_n 4 rfl (pc2 := 9) rfl rfl ?_
    refine Y_iload_n 5 rfl (pc2 := 10) rfl rfl ?_
    refine Y_iload 6 rfl (pc2 := 12) rfl rfl ?_
    refine Y_cV 7 rfl (pc2 := 15) rfl ok_gh_goesTo lk_gh_200 vi_gh_goesTo ly_gh rfl (by decide) rfl (as := [.int _, .int _, .int _]) (rest := []) rfl rfl (T_gh_goesTo h w) ?_
    rintro _ _ (⟨r, b, s, hr, rfl, hb, rfl, hs, rfl, rfl, rfl⟩ | ⟨hn, rfl, c0, l0, p0, t0, rfl⟩)
    · change Y _ _ _ _ _ [.int _] _ _
      have h144 := tot_le w
      have hL := wl_lt w r hr
      have hp16 := w.p.2
      have hC : cA_ S r < 4 := (w.c (wp S r) (by omega)).2
      have hB := (w.b (cA_ S r) hC).2
      have hZ := sz_16 hL.1
      have hG : goo S (nI r) (nI b) (nI s) := ⟨⟨r, hr, rfl⟩, by rw [nv_nI (by omega)]; exact ⟨b, hb, rfl⟩, by rw [nv_nI (by omega)]; exact ⟨s, hs, rfl⟩⟩
      refine Y_if_nen 8 rfl (pc2 := 18) rfl (tgt := 21) (by decide) (by decide) (fun _ => ?_) (fun hd => absurd hd (by decide))
      refine Y_aload_n 11 rfl (pc2 := 22) rfl rfl ?_
      refine Y_getR 12 rfl (pc2 := 25) rfl fl_gh_25 ly_gh (by decide) rfl rfl (by omega) ?_
      refine Y_aload_n 13 rfl (pc2 := 26) rfl rfl ?_
      refine Y_getR 14 rfl (pc2 := 29) rfl fl_gh_45 ly_gh (by decide) rfl rfl (by omega) ?_
      refine Y_getI 15 rfl (pc2 := 32) rfl fl_gh_188 ly_wa (by decide) rfl ?_
      refine Y_top (wk_c) ?_
      refine Y_aald 16 rfl (pc2 := 33) rfl ly_ghC (by decide) (fun _ => rfl) rfl (by omega) (by decide) (ly_ghC_at (by omega)) (by omega) ?_
      refine Y_aload_n 17 rfl (pc2 := 34) rfl rfl ?_
      refine Y_getR 18 rfl (pc2 := 37) rfl fl_gh_31 ly_gh (by decide) rfl rfl (by omega) ?_
      refine Y_aload_n 19 rfl (pc2 := 38) rfl rfl ?_
      refine Y_getR 20 rfl (pc2 := 41) rfl fl_gh_45 ly_gh (by decide) rfl rfl (by omega) ?_
      refine Y_getI 21 rfl (pc2 := 44) rfl fl_gh_191 ly_wa (by decide) rfl ?_
      refine Y_top (wk_l) ?_
      refine Y_aald 22 rfl (pc2 := 45) rfl ly_ghL (by decide) (fun _ => rfl) rfl (by omega) (by decide) (ly_ghL_at (by omega)) (by omega) ?_
      refine Y_iload_n 23 rfl (pc2 := 46) rfl rfl ?_
      refine Y_iconst 24 rfl (pc2 := 47) rfl (v := nI 1) (by decide) ?_
      refine Y_isub 25 rfl (pc2 := 48) rfl ?_
      refine Y_top (nI_sub (by omega)) ?_
      refine Y_iload_n 26 rfl (pc2 := 49) rfl rfl ?_
      refine Y_iload 27 rfl (pc2 := 51) rfl rfl ?_
      refine Y_cS 28 rfl (pc2 := 54) rfl ok_gh_keyAt lk_gh_206 vs_gh_keyAt (as := [.ref _, .ref _, .int _, .int _, .int _]) (rest := []) rfl rfl (T_gh_keyAt (RC_wk h) w (by omega) (by omega) (by omega) (by omega) (by omega)) ?_
      rintro _ _ ⟨rfl, rfl⟩
      change Y _ _ _ _ _ [.int _] _ _
      refine Y_istore 29 rfl (pc2 := 56) rfl (Nat.le_of_ble_eq_true rfl) (ls2 := [some (.ref _), some (.int _), some (.int _), some (.int _), some (.int _), some (.int _), none]) rfl ?_
      refine Y_aload_n 30 rfl (pc2 := 57) rfl rfl ?_
      refine Y_getR 31 rfl (pc2 := 60) rfl fl_gh_25 ly_gh (by decide) rfl rfl (by omega) ?_
      refine Y_aload_n 32 rfl (pc2 := 61) rfl rfl ?_
      refine Y_getR 33 rfl (pc2 := 64) rfl fl_gh_45 ly_gh (by decide) rfl rfl (by omega) ?_
      refine Y_getI 34 rfl (pc2 := 67) rfl fl_gh_188 ly_wa (by decide) rfl ?_
      refine Y_top (wk_c) ?_
      refine Y_aald 35 rfl (pc2 := 68) rfl ly_ghC (by decide) (fun _ => rfl) rfl (by omega) (by decide) (ly_ghC_at (by omega)) (by omega) ?_
      refine Y_aload_n 36 rfl (pc2 := 69) rfl rfl ?_
      refine Y_getR 37 rfl (pc2 := 72) rfl fl_gh_31 ly_gh (by decide) rfl rfl (by omega) ?_
      refine Y_aload_n 38 rfl (pc2 := 73) rfl rfl ?_
      refine Y_getR 39 rfl (pc2 := 76) rfl fl_gh_45 ly_gh (by decide) rfl rfl (by omega) ?_
      refine Y_getI 40 rfl (pc2 := 79) rfl fl_gh_191 ly_wa (by decide) rfl ?_
      refine Y_top (wk_l) ?_
      refine Y_aald 41 rfl (pc2 := 80) rfl ly_ghL (by decide) (fun _ => rfl) rfl (by omega) (by decide) (ly_ghL_at (by omega)) (by omega) ?_
      refine Y_iload_n 42 rfl (pc2 := 81) rfl rfl ?_
      refine Y_iconst 43 rfl (pc2 := 82) rfl (v := nI 1) (by decide) ?_
      refine Y_isub 44 rfl (pc2 := 83) rfl ?_
      refine Y_top (nI_sub (by omega)) ?_
      refine Y_iload_n 45 rfl (pc2 := 84) rfl rfl ?_
      refine Y_iload 46 rfl (pc2 := 86) rfl rfl ?_
      refine Y_cS 47 rfl (pc2 := 89) rfl ok_gh_keyAhead lk_gh_210 vs_gh_keyAhead (as := [.ref _, .ref _, .int _, .int _, .int _]) (rest := []) rfl rfl (T_gh_keyAhead (RC_wk h) w (by omega) (by omega) (by omega) (by omega) (by omega)) ?_
      rintro _ _ ⟨rfl, rfl⟩
      change Y _ _ _ _ _ [.int _] _ _
      refine Y_istore 48 rfl (pc2 := 91) rfl (Nat.le_of_ble_eq_true rfl) (ls2 := [some (.ref _), some (.int _), some (.int _), some (.int _), some (.int _), some (.int _), some (.int _)]) rfl ?_
      refine Y_iload 49 rfl (pc2 := 93) rfl rfl ?_
      refine Y_ldc 50 rfl (pc2 := 95) rfl kc_gh_84 ?_
      refine Y_icmp_eq 51 rfl (pc2 := 98) rfl (tgt := 105) (by decide) (fun h95 => ?_) (fun h95 => ?_)
      · refine Y_ldc 55 rfl (pc2 := 107) rfl kc_gh_84 ?_
        refine Y_goto 56 rfl (pc2 := 112) (by decide) ?_
        refine Y_iret 58 rfl rfl rfl ⟨rfl, ?_⟩
        first | exact pc_w h (by unfold sp_damps; rw [cI_t ⟨⟨g, hg, rfl⟩, hG⟩, nv_nI (k := g + 1) (by omega)]; rw [nv_nI (k := r) (by omega), nv_nI (k := b) (by omega), nv_nI (k := s) (by omega)]; unfold dmp; rw [if_pos (Or.inl (show _ = NONE_ from h95))]; try rfl) | exact pc_w h (by unfold sp_damps; rw [cI_t ⟨⟨g, hg, rfl⟩, hG⟩, nv_nI (k := g + 1) (by omega)]; rw [nv_nI (k := r) (by omega), nv_nI (k := b) (by omega), nv_nI (k := s) (by omega)]; unfold dmp; rw [if_pos (Or.inr h102)]; try rfl) | exact pc_w h (by unfold sp_damps; rw [cI_t ⟨⟨g, hg, rfl⟩, hG⟩, nv_nI (k := g + 1) (by omega)]; rw [nv_nI (k := r) (by omega), nv_nI (k := b) (by omega), nv_nI (k := s) (by omega)]; unfold dmp; rw [if_pos (Or.inr (Classical.byContradiction h102))]; try rfl) | exact pc_w h (by unfold sp_damps; rw [cI_t ⟨⟨g, hg, rfl⟩, hG⟩, nv_nI (k := g + 1) (by omega)]; rw [nv_nI (k := r) (by omega), nv_nI (k := b) (by omega), nv_nI (k := s) (by omega)]; unfold dmp; rw [if_neg (show ¬ (_ = NONE_ ∨ _ = _) from fun e => e.elim h95 h102)]; try rfl)
      · refine Y_iload 52 rfl (pc2 := 100) rfl rfl ?_
        refine Y_iload 53 rfl (pc2 := 102) rfl rfl ?_
        refine Y_icmp_ne 54 rfl (pc2 := 105) rfl (tgt := 110) (by decide) (fun h102 => ?_) (fun h102 => ?_)
        · refine Y_iload 57 rfl (pc2 := 112) rfl rfl ?_
          refine Y_iret 58 rfl rfl rfl ⟨rfl, ?_⟩
          first | exact pc_w h (by unfold sp_damps; rw [cI_t ⟨⟨g, hg, rfl⟩, hG⟩, nv_nI (k := g + 1) (by omega)]; rw [nv_nI (k := r) (by omega), nv_nI (k := b) (by omega), nv_nI (k := s) (by omega)]; unfold dmp; rw [if_pos (Or.inl (show _ = NONE_ from h95))]; try rfl) | exact pc_w h (by unfold sp_damps; rw [cI_t ⟨⟨g, hg, rfl⟩, hG⟩, nv_nI (k := g + 1) (by omega)]; rw [nv_nI (k := r) (by omega), nv_nI (k := b) (by omega), nv_nI (k := s) (by omega)]; unfold dmp; rw [if_pos (Or.inr h102)]; try rfl) | exact pc_w h (by unfold sp_damps; rw [cI_t ⟨⟨g, hg, rfl⟩, hG⟩, nv_nI (k := g + 1) (by omega)]; rw [nv_nI (k := r) (by omega), nv_nI (k := b) (by omega), nv_nI (k := s) (by omega)]; unfold dmp; rw [if_pos (Or.inr (Classical.byContradiction h102))]; try rfl) | exact pc_w h (by unfold sp_damps; rw [cI_t ⟨⟨g, hg, rfl⟩, hG⟩, nv_nI (k := g + 1) (by omega)]; rw [nv_nI (k := r) (by omega), nv_nI (k := b) (by omega), nv_nI (k := s) (by omega)]; unfold dmp; rw [if_neg (show ¬ (_ = NONE_ ∨ _ = _) from fun e => e.elim h95 h102)]; try rfl)
        · refine Y_ldc 55 rfl (pc2 := 107) rfl kc_gh_84 ?_
          refine Y_goto 56 rfl (pc2 := 112) (by decide) ?_
          refine Y_iret 58 rfl rfl rfl ⟨rfl, ?_⟩
          first | exact pc_w h (by unfold sp_damps; rw [cI_t ⟨⟨g, hg, rfl⟩, hG⟩, nv_nI (k := g + 1) (by omega)]; rw [nv_nI (k := r) (by omega), nv_nI (k := b) (by omega), nv_nI (k := s) (by omega)]; unfold dmp; rw [if_pos (Or.inl (show _ = NONE_ from h95))]; try rfl) | exact pc_w h (by unfold sp_damps; rw [cI_t ⟨⟨g, hg, rfl⟩, hG⟩, nv_nI (k := g + 1) (by omega)]; rw [nv_nI (k := r) (by omega), nv_nI (k := b) (by omega), nv_nI (k := s) (by omega)]; unfold dmp; rw [if_pos (Or.inr h102)]; try rfl) | exact pc_w h (by unfold sp_damps; rw [cI_t ⟨⟨g, hg, rfl⟩, hG⟩, nv_nI (k := g + 1) (by omega)]; rw [nv_nI (k := r) (by omega), nv_nI (k := b) (by omega), nv_nI (k := s) (by omega)]; unfold dmp; rw [if_pos (Or.inr (Classical.byContradiction h102))]; try rfl) | exact pc_w h (by unfold sp_damps; rw [cI_t ⟨⟨g, hg, rfl⟩, hG⟩, nv_nI (k := g + 1) (by omega)]; rw [nv_nI (k := r) (by omega), nv_nI (k := b) (by omega), nv_nI (k := s) (by omega)]; unfold dmp; rw [if_neg (show ¬ (_ = NONE_ ∨ _ = _) from fun e => e.elim h95 h102)]; try rfl)
    · change Y _ _ _ _ _ [.int _] _ _
      refine Y_if_nen 8 rfl (pc2 := 18) rfl (tgt := 21) (by decide) (by decide) (fun hd => absurd hd (by decide)) (fun _ => ?_)
      refine Y_ldc 9 rfl (pc2 := 20) rfl kc_gh_75 ?_
      refine Y_iret 10 rfl rfl rfl ⟨rfl, ?_⟩
      first | exact pc_0 h (by unfold sp_damps; rw [cI_f (fun e => h4 e.1)]; rfl) | exact pc_w h (by unfold sp_damps; rw [cI_f (fun e => hn e.2)]; rfl)

set_option maxHeartbeats 400000 in
theorem T_gh_strikes {G : Nat × (Nat → Int32)} {m : Mm} {S : Mm} (h : RC m S) (w : WF S) {p x : Int32} : Y G M_gh_strikes (0, 0) 0 (en_ M_gh_strikes [.ref (0), .int (p), .int (x)]) [] (LAY, m) (qm_ LAY (pc_ (sp_strikes S p x) m S)) := by
  change Y _ _ _ _ [some (.ref _), some (.int _), some (.int _), none] _ _ _
  have h144 := tot_le w
  refine Y_iload_n 0 rfl (pc2 := 1) rfl rfl ?_
  refine Y_iconst 1 rfl (pc2 := 2) rfl (v := nI 4) (by decide) ?_
  refine Y_cS 2 rfl (pc2 := 5) rfl ok_gh_isBelow lk_gh_80 vs_gh_isBelow (as := [.int _, .int _]) (rest := []) rfl rfl (T_gh_isBelow (by omega)) ?_
  rintro _ _ ⟨rfl, rfl⟩
  change Y _ _ _ _ _ [.int _] _ _
  refine Y_if_eqb 3 rfl (pc2 := 8) rfl (tgt := 27) (by decide) (fun h5 => ?_) (fun h5 => ?_)
  · refine Y_ldc 13 rfl (pc2 := 29) rfl kc_gh_75 ?_
    refine Y_iret 14 rfl rfl rfl ⟨rfl, ?_⟩
    first | exact pc_0 h (by unfold sp_strikes; rw [cI_f (fun e => h5 e.1)]; rfl) | exact pc_w h (by unfold sp_strikes; rw [cI_f (fun e => hn e.2)]; rfl)
  · obtain ⟨q, hq, rfl⟩ := h5
    refine Y_aload_n 4 rfl (pc2 := 9) rfl rfl ?_
    refine Y_getR 5 rfl (pc2 := 12) rfl fl_gh_45 ly_gh (by decide) rfl rfl (by omega) ?_
    refine Y_aload_n 6 rfl (pc2 := 13) rfl rfl ?_
    refine Y_getR 7 rfl (pc2 := 16) rfl fl_gh_38 ly_gh (by decide) rfl rfl (by omega) ?_
    refine Y_aload_n 8 rfl (pc2 := 17) rfl rfl ?_
    refine Y_getR 9 rfl (pc2 := 20) rfl fl_gh_25 ly_gh (by decide) rfl rfl (by omega) ?_
    refine Y_iload_n 10 rfl (pc2 := 21) rfl rfl ?_
    refine Y_cV 11 rfl (pc2 := 24) rfl ok_wa_reaches lk_gh_184 vi_wa_reaches ly_wa rfl (by decide) rfl (as := [.ref _, .ref _, .int _]) (rest := []) rfl rfl (T_wa_reaches h w) ?_
    rintro _ _ (⟨r, hr, rfl, rfl, rfl⟩ | ⟨hn, rfl, c0, l0, p0, rfl⟩)
    · change Y _ _ _ _ _ [.int _] _ _
      have hL := wl_lt w r hr
      have hp16 := w.p.2
      have hC := (w.c (wp S r) (by omega)).2
      have hB := (w.b (pC S (wp S r)) hC).2
      have hZ := sz_16 hL.1
      refine Y_if_nen 12 rfl (pc2 := 27) rfl (tgt := 30) (by decide) (by decide) (fun _ => ?_) (fun hd => absurd hd (by decide))
      refine Y_aload_n 15 rfl (pc2 := 31) rfl rfl ?_
      refine Y_getR 16 rfl (pc2 := 34) rfl fl_gh_25 ly_gh (by decide) rfl rfl (by omega) ?_
      refine Y_aload_n 17 rfl (pc2 := 35) rfl rfl ?_
      refine Y_getR 18 rfl (pc2 := 38) rfl fl_gh_45 ly_gh (by decide) rfl rfl (by omega) ?_
      refine Y_getI 19 rfl (pc2 := 41) rfl fl_gh_188 ly_wa (by decide) rfl ?_
      refine Y_top (wk_c) ?_
      refine Y_aald 20 rfl (pc2 := 42) rfl ly_ghC (by decide) (fun _ => rfl) rfl (by omega) (by decide) (ly_ghC_at (by omega)) (by omega) ?_
      refine Y_astore_n 21 rfl (pc2 := 43) rfl (Nat.le_of_ble_eq_true rfl) (ls2 := [some (.ref _), some (.int _), some (.int _), some (.ref _)]) rfl ?_
      refine Y_iload_n 22 rfl (pc2 := 44) rfl rfl ?_
      refine Y_if_nen 23 rfl (pc2 := 47) rfl (tgt := 52) (by decide) (by omega) (fun h44 => ?_) (fun h44 => ?_)
      · refine Y_iload_n 27 rfl (pc2 := 53) rfl rfl ?_
        refine Y_iconst 28 rfl (pc2 := 54) rfl (v := nI 3) (by decide) ?_
        refine Y_icmp_nen 29 rfl (pc2 := 57) rfl (tgt := 62) (by decide) (by omega) (by omega) (fun h54 => ?_) (fun h54 => ?_)
        · refine Y_aload_n 33 rfl (pc2 := 63) rfl rfl ?_
          refine Y_aload_n 34 rfl (pc2 := 64) rfl rfl ?_
          refine Y_getR 35 rfl (pc2 := 67) rfl fl_gh_31 ly_gh (by decide) rfl rfl (by omega) ?_
          refine Y_aload_n 36 rfl (pc2 := 68) rfl rfl ?_
          refine Y_getR 37 rfl (pc2 := 71) rfl fl_gh_45 ly_gh (by decide) rfl rfl (by omega) ?_
          refine Y_getI 38 rfl (pc2 := 74) rfl fl_gh_191 ly_wa (by decide) rfl ?_
          refine Y_top (wk_l) ?_
          refine Y_aald 39 rfl (pc2 := 75) rfl ly_ghL (by decide) (fun _ => rfl) rfl (by omega) (by decide) (ly_ghL_at (by omega)) (by omega) ?_
          refine Y_iload_n 40 rfl (pc2 := 76) rfl rfl ?_
          refine Y_iconst 41 rfl (pc2 := 77) rfl (v := nI 1) (by decide) ?_
          refine Y_isub 42 rfl (pc2 := 78) rfl ?_
          refine Y_top (nI_sub (by omega)) ?_
          refine Y_cS 43 rfl (pc2 := 81) rfl ok_gh_halfStrikes lk_gh_219 vs_gh_halfStrikes (as := [.ref _, .ref _, .int _]) (rest := []) rfl rfl (T_gh_halfStrikes (RC_wk h) w (by omega) (by omega) (by omega)) ?_
          rintro _ _ ⟨rfl, rfl⟩
          change Y _ _ _ _ _ [.int _] _ _
          refine Y_iret 44 rfl rfl rfl ⟨rfl, ?_⟩
          exact pc_w h (by unfold sp_strikes; rw [cI_t ⟨⟨q, hq, rfl⟩, ⟨r, hr, rfl⟩⟩, nv_nI (k := q) (by omega), nv_nI (k := r) (by omega), if_neg h44, if_neg (by omega)]; rfl)
        · refine Y_aload_n 30 rfl (pc2 := 58) rfl rfl ?_
          refine Y_cV 31 rfl (pc2 := 61) rfl ok_ci_countGongs lk_gh_216 vi_ci_countGongs (ly_ci (by omega)) rfl (by decide) rfl (as := []) (rest := []) rfl rfl (T_ci_countGongs (RC_wk h) w (by omega)) ?_
          rintro _ _ ⟨rfl, rfl⟩
          change Y _ _ _ _ _ [.int _] _ _
          refine Y_iret 32 rfl rfl rfl ⟨rfl, ?_⟩
          exact pc_w h (by unfold sp_strikes; rw [cI_t ⟨⟨q, hq, rfl⟩, ⟨r, hr, rfl⟩⟩, nv_nI (k := q) (by omega), nv_nI (k := r) (by omega), if_neg h44, if_pos (by omega)]; rfl)
      · refine Y_aload_n 24 rfl (pc2 := 48) rfl rfl ?_
        refine Y_cV 25 rfl (pc2 := 51) rfl ok_ci_countNotes lk_gh_213 vi_ci_countNotes (ly_ci (by omega)) rfl (by decide) rfl (as := []) (rest := []) rfl rfl (T_ci_countNotes (RC_wk h) w (by omega)) ?_
        rintro _ _ ⟨rfl, rfl⟩
        change Y _ _ _ _ _ [.int _] _ _
        refine Y_iret 26 rfl rfl rfl ⟨rfl, ?_⟩
        exact pc_w h (by unfold sp_strikes; rw [cI_t ⟨⟨q, hq, rfl⟩, ⟨r, hr, rfl⟩⟩, nv_nI (k := q) (by omega), nv_nI (k := r) (by omega), if_pos h44]; rfl)
    · change Y _ _ _ _ _ [.int _] _ _
      refine Y_if_nen 12 rfl (pc2 := 27) rfl (tgt := 30) (by decide) (by decide) (fun hd => absurd hd (by decide)) (fun _ => ?_)
      refine Y_ldc 13 rfl (pc2 := 29) rfl kc_gh_75 ?_
      refine Y_iret 14 rfl rfl rfl ⟨rfl, ?_⟩
      first | exact pc_0 h (by unfold sp_strikes; rw [cI_f (fun e => h5 e.1)]; rfl) | exact pc_w h (by unfold sp_strikes; rw [cI_f (fun e => hn e.2)]; rfl)

set_option maxHeartbeats 400000 in
theorem T_gh_count {G : Nat × (Nat → Int32)} {m : Mm} {S : Mm} (h : RC m S) (w : WF S) {x : Int32} : Y G M_gh_count (0, 0) 0 (en_ M_gh_count [.ref (0), .int (x)]) [] (LAY, m) (qm_ LAY (pc_ (sp_count S x) m S)) := by
  change Y _ _ _ _ [some (.ref _), some (.int _)] _ _ _
  refine Y_iload_n 0 rfl (pc2 := 1) rfl rfl ?_
  refine Y_tsw 1 rfl (n := 7) (by decide) (by decide) rfl (by decide) (tgt := 91) (by decide) (fun h1 => ?_) (fun j hj h1 => ?_)
  · refine Y_ldc 27 rfl (pc2 := 93) rfl kc_gh_75 ?_
    refine Y_iret 28 rfl rfl rfl ⟨rfl, ?_⟩
    exact pc_0 h (by unfold sp_count; rw [cI_f h1]; rfl)
  · have hj2 : j = 0 ∨ j = 1 ∨ j = 2 ∨ j = 3 ∨ j = 4 ∨ j = 5 ∨ j = 6 := by omega
    rcases hj2 with rfl | rfl | rfl | rfl | rfl | rfl | rfl
    · change Y _ _ _ 44 _ _ _ _
      subst h1
      refine Y_aload_n 2 rfl (pc2 := 45) rfl rfl ?_
      refine Y_cV 3 rfl (pc2 := 48) rfl ok_gh_allBeats lk_gh_258 vi_gh_allBeats ly_gh rfl (by decide) rfl (as := []) (rest := []) rfl rfl (T_gh_allBeats h w) ?_
      rintro _ _ ⟨rfl, rfl⟩
      change Y _ _ _ _ _ [.int _] _ _
      refine Y_iret 4 rfl rfl rfl ⟨rfl, ?_⟩
      exact pc_0 h (by unfold sp_count; rw [cI_t ⟨0, by omega, rfl⟩, nv_nI (by omega)]; rw [if_pos rfl])
    · change Y _ _ _ 49 _ _ _ _
      subst h1
      refine Y_aload_n 5 rfl (pc2 := 50) rfl rfl ?_
      refine Y_cV 6 rfl (pc2 := 53) rfl ok_gh_allGongs lk_gh_261 vi_gh_allGongs ly_gh rfl (by decide) rfl (as := []) (rest := []) rfl rfl (T_gh_allGongs h w) ?_
      rintro _ _ ⟨rfl, rfl⟩
      change Y _ _ _ _ _ [.int _] _ _
      refine Y_iret 7 rfl rfl rfl ⟨rfl, ?_⟩
      exact pc_0 h (by unfold sp_count; rw [cI_t ⟨1, by omega, rfl⟩, nv_nI (by omega)]; rw [if_neg (by decide), if_pos rfl])
    · change Y _ _ _ 54 _ _ _ _
      subst h1
      refine Y_aload_n 8 rfl (pc2 := 55) rfl rfl ?_
      refine Y_cV 9 rfl (pc2 := 58) rfl ok_gh_allRight lk_gh_264 vi_gh_allRight ly_gh rfl (by decide) rfl (as := []) (rest := []) rfl rfl (T_gh_allRight h w) ?_
      rintro _ _ ⟨rfl, rfl⟩
      change Y _ _ _ _ _ [.int _] _ _
      refine Y_iret 10 rfl rfl rfl ⟨rfl, ?_⟩
      exact pc_0 h (by unfold sp_count; rw [cI_t ⟨2, by omega, rfl⟩, nv_nI (by omega)]; rw [if_neg (by decide), if_neg (by decide), if_pos rfl])
    · change Y _ _ _ 59 _ _ _ _
      subst h1
      refine Y_aload_n 11 rfl (pc2 := 60) rfl rfl ?_
      refine Y_getR 12 rfl (pc2 := 63) rfl fl_gh_38 ly_gh (by decide) rfl rfl (by omega) ?_
      refine Y_getI 13 rfl (pc2 := 66) rfl fl_gh_164 ly_pi (by decide) rfl ?_
      refine Y_top (h.p) ?_
      refine Y_iret 14 rfl rfl rfl ⟨rfl, ?_⟩
      exact pc_0 h (by unfold sp_count; rw [cI_t ⟨3, by omega, rfl⟩, nv_nI (by omega)]; rw [if_neg (by decide), if_neg (by decide), if_neg (by decide), if_pos rfl])
    · change Y _ _ _ 67 _ _ _ _
      subst h1
      refine Y_aload_n 15 rfl (pc2 := 68) rfl rfl ?_
      refine Y_getR 16 rfl (pc2 := 71) rfl fl_gh_38 ly_gh (by decide) rfl rfl (by omega) ?_
      refine Y_cV 17 rfl (pc2 := 74) rfl ok_pi_countRounds lk_gh_267 vi_pi_countRounds ly_pi rfl (by decide) rfl (as := []) (rest := []) rfl rfl (T_pi_countRounds h w) ?_
      rintro _ _ ⟨rfl, rfl⟩
      change Y _ _ _ _ _ [.int _] _ _
      refine Y_iret 18 rfl rfl rfl ⟨rfl, ?_⟩
      exact pc_0 h (by unfold sp_count; rw [cI_t ⟨4, by omega, rfl⟩, nv_nI (by omega)]; rw [if_neg (by decide), if_neg (by decide), if_neg (by decide), if_neg (by decide), if_pos rfl])
    · change Y _ _ _ 75 _ _ _ _
      subst h1
      refine Y_aload_n 19 rfl (pc2 := 76) rfl rfl ?_
      refine Y_getR 20 rfl (pc2 := 79) rfl fl_gh_38 ly_gh (by decide) rfl rfl (by omega) ?_
      refine Y_getI 21 rfl (pc2 := 82) rfl fl_gh_174 ly_pi (by decide) rfl ?_
      refine Y_top (h.sn) ?_
      refine Y_iret 22 rfl rfl rfl ⟨rfl, ?_⟩
      exact pc_0 h (by unfold sp_count; rw [cI_t ⟨5, by omega, rfl⟩, nv_nI (by omega)]; rw [if_neg (by decide), if_neg (by decide), if_neg (by decide), if_neg (by decide), if_neg (by decide), if_pos rfl])
    · change Y _ _ _ 83 _ _ _ _
      subst h1
      refine Y_aload_n 23 rfl (pc2 := 84) rfl rfl ?_
      refine Y_getR 24 rfl (pc2 := 87) rfl fl_gh_10 ly_gh (by decide) rfl rfl (by omega) ?_
      refine Y_getI 25 rfl (pc2 := 90) rfl fl_gh_67 ly_ta (by decide) rfl ?_
      refine Y_top (h.tp) ?_
      refine Y_iret 26 rfl rfl rfl ⟨rfl, ?_⟩
      exact pc_0 h (by unfold sp_count; rw [cI_t ⟨6, by omega, rfl⟩, nv_nI (by omega)]; rw [if_neg (by decide), if_neg (by decide), if_neg (by decide), if_neg (by decide), if_neg (by decide), if_neg (by decide)])
