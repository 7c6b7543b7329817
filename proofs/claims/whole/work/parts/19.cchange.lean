/-! the class: what its calls change -/
def FULL_ : Int32 := -1000000003
def NOTHING_ : Int32 := -1000000011
def INDEX_ : Int32 := -1000000013
def SIZE_ : Int32 := -1000000014
def shO (v : Int32) : Prop := v = NONE_ ∨ (-4 ≤ v ∧ v ≤ nI 4)
def mtd (v : Int32) : Int32 := if v = NONE_ then -9 else v
set_option maxHeartbeats 400000 in
theorem sh_is {v : Int32} (h : -4 ≤ v ∧ v ≤ nI 4) : ∃ j, j < 9 ∧ v = nI j - nI 4 := by
  have h1 : -4 ≤ v.toInt := by have := Int32.le_iff_toInt_le.mp h.1; simpa using this
  have h2 : v.toInt ≤ 4 := by have := Int32.le_iff_toInt_le.mp h.2; rw [nI_toInt (by decide)] at this; exact this
  refine ⟨(v.toInt + 4).toNat, by omega, ?_⟩
  have e : v = Int32.ofInt v.toInt := (Int32.ofInt_toInt v).symm
  have h3 : v.toInt = -4 ∨ v.toInt = -3 ∨ v.toInt = -2 ∨ v.toInt = -1 ∨ v.toInt = 0 ∨ v.toInt = 1 ∨ v.toInt = 2 ∨ v.toInt = 3 ∨ v.toInt = 4 := by omega
  generalize hz : v.toInt = z at *
  rw [e]
  rcases h3 with rfl | rfl | rfl | rfl | rfl | rfl | rfl | rfl | rfl <;> decide
set_option maxHeartbeats 400000 in
theorem mtd_isS {v : Int32} (h : shO v) : isS (mtd v) := by
  unfold mtd
  split
  · exact Or.inl rfl
  · rename_i e
    rcases h with q | q
    · exact absurd q e
    · exact Or.inr (sh_is q)
set_option maxHeartbeats 400000 in
theorem mtd_oS {v : Int32} (h : shO v) : v = oS (mtd v) := by
  unfold mtd
  split
  · rename_i e; rw [e]; rfl
  · rename_i e
    unfold oS
    rw [if_neg]
    rcases h with q | q
    · exact absurd q e
    · obtain ⟨j, hj, rfl⟩ := sh_is q
      intro e2
      have h3 : j = 0 ∨ j = 1 ∨ j = 2 ∨ j = 3 ∨ j = 4 ∨ j = 5 ∨ j = 6 ∨ j = 7 ∨ j = 8 := by omega
      rcases h3 with rfl | rfl | rfl | rfl | rfl | rfl | rfl | rfl | rfl <;> exact absurd e2 (by decide)
def stC (x y z u v : Int32) : Prop := ((iR x 4 ∧ iR y 6) ∧ iR u (2 ^ (nv x + 1))) ∧ iR z 2 ∧ shO v
noncomputable def sp_strike (S : Mm) (x y z u v : Int32) : Int32 := cI (stC x y z u v) (oS (S 157 (ix (nv x) (nv y) (nv z) (nv u)))) BAD_
noncomputable def st_strike (S : Mm) (x y z u v : Int32) : Mm := cI (stC x y z u v) (uw_ S 157 (ix (nv x) (nv y) (nv z) (nv u)) (mtd v)) S
def toC (x y z u : Int32) : Prop := ((iR x 4 ∧ iR y 6) ∧ iR z (2 ^ (nv x + 1))) ∧ iR u 2
noncomputable def sp_tog (S : Mm) (x y z u : Int32) : Int32 := cI (toC x y z u) (S 158 (iy (nv x) (nv y) (nv z))) BAD_
noncomputable def st_tog (S : Mm) (x y z u : Int32) : Mm := cI (toC x y z u) (uw_ S 158 (iy (nv x) (nv y) (nv z)) u) S
def usC (x y z : Int32) : Prop := (iR x 4 ∧ iR z 6) ∧ iR y 3
noncomputable def sp_use (S : Mm) (x y z : Int32) : Int32 := cI (usC x y z) (S 159 (3 * nv x + nv y)) BAD_
noncomputable def st_use (S : Mm) (x y z : Int32) : Mm := cI (usC x y z) (uw_ S 159 (3 * nv x + nv y) z) S
noncomputable def sp_trim (S : Mm) (x : Int32) : Int32 := cI (iR x (tpd S + 1)) x BAD_
noncomputable def st_trim (S : Mm) (x : Int32) : Mm := cI (iR x (tpd S + 1)) (uw_ S 153 12 x) S
set_option maxHeartbeats 400000 in
theorem pc_bad {m S S2 : Mm} {x y : Int32} (h : RC m S) (e : y = x) (e2 : S2 = S) : pc_ x m S2 (some (.int y)) m := by
  rw [e2]; exact pc_0 h e

set_option maxHeartbeats 400000 in
theorem T_gh_strike {G : Nat × (Nat → Int32)} {m : Mm} {S : Mm} (h : RC m S) (w : WF S) {x y z u v : Int32} : Y G M_gh_strike (0, 0) 0 (en_ M_gh_strike [.ref (0), .int (x), .int (y), .int (z), .int (u), .int (v)]) [] (LAY, m) (qm_ LAY (pc_ (sp_strike S x y z u v) m (st_strike S x y z u v))) := by
  change Y _ _ _ _ [some (.ref _), some (.int _), some (.int _), some (.int _), some (.int _), some (.int _), none, none] _ _ _
  refine Y_aload_n 0 rfl (pc2 := 1) rfl rfl ?_
  refine Y_iload_n 1 rfl (pc2 := 2) rfl rfl ?_
  refine Y_iload_n 2 rfl (pc2 := 3) rfl rfl ?_
  refine Y_iload 3 rfl (pc2 := 5) rfl rfl ?_
  refine Y_cV 4 rfl (pc2 := 8) rfl ok_gh_hasStep lk_gh_109 vi_gh_hasStep ly_gh rfl (by decide) rfl (as := [.int _, .int _, .int _]) (rest := []) rfl rfl (T_gh_hasStep h w) ?_
  rintro _ _ ⟨rfl, rfl⟩
  change Y _ _ _ _ _ [.int _] _ _
  refine Y_if_eqb 5 rfl (pc2 := 11) rfl (tgt := 19) (by decide) (fun h8 => ?_) (fun h8 => ?_)
  · refine Y_ldc 10 rfl (pc2 := 21) rfl kc_gh_75 ?_
    refine Y_iret 11 rfl rfl rfl ⟨rfl, ?_⟩
    first | exact pc_bad h (by unfold sp_strike; rw [cI_f (fun e => h8 e.1)]; rfl) (by unfold st_strike; rw [cI_f (fun e => h8 e.1)]) | exact pc_bad h (by unfold sp_strike; rw [cI_f (fun e => h16 e.2.1)]; rfl) (by unfold st_strike; rw [cI_f (fun e => h16 e.2.1)])
  · obtain ⟨⟨⟨l, hl, rfl⟩, ⟨f, hf, rfl⟩⟩, hs0⟩ := h8
    rw [nv_nI (by omega)] at hs0
    obtain ⟨s, hs, rfl⟩ := hs0
    have hz := sz_16 hl
    refine Y_iload_n 6 rfl (pc2 := 12) rfl rfl ?_
    refine Y_iconst 7 rfl (pc2 := 13) rfl (v := nI 2) (by decide) ?_
    refine Y_cS 8 rfl (pc2 := 16) rfl ok_gh_isBelow lk_gh_80 vs_gh_isBelow (as := [.int _, .int _]) (rest := []) rfl rfl (T_gh_isBelow (by omega)) ?_
    rintro _ _ ⟨rfl, rfl⟩
    change Y _ _ _ _ _ [.int _] _ _
    refine Y_if_neb 9 rfl (pc2 := 19) rfl (tgt := 22) (by decide) (fun h16 => ?_) (fun h16 => ?_)
    · obtain ⟨g, hg, rfl⟩ := h16
      refine Y_iload 12 rfl (pc2 := 24) rfl rfl ?_
      refine Y_ldc 13 rfl (pc2 := 26) rfl kc_gh_84 ?_
      refine Y_icmp_eq 14 rfl (pc2 := 29) rfl (tgt := 40) (by decide) (fun h26 => ?_) (fun h26 => ?_)
      · have hO : shO v := by first | exact Or.inl h26 | exact Or.inr h34
        refine Y_aload_n 20 rfl (pc2 := 41) rfl rfl ?_
        refine Y_getR 21 rfl (pc2 := 44) rfl fl_gh_31 ly_gh (by decide) rfl rfl (by omega) ?_
        refine Y_iload_n 22 rfl (pc2 := 45) rfl rfl ?_
        refine Y_aald 23 rfl (pc2 := 46) rfl ly_ghL (by decide) (fun _ => rfl) rfl (by omega) (by decide) (ly_ghL_at (by omega)) (by omega) ?_
        refine Y_getR 24 rfl (pc2 := 49) rfl fl_gh_117 (ly_le (by omega)) (by decide) rfl rfl (by omega) ?_
        refine Y_iload_n 25 rfl (pc2 := 50) rfl rfl ?_
        refine Y_aald 26 rfl (pc2 := 51) rfl (ly_leF (by omega)) (by decide) (fun _ => rfl) rfl (by omega) (by decide) (ly_leF_at (by omega)) (by omega) ?_
        refine Y_iload_n 27 rfl (pc2 := 52) rfl rfl ?_
        refine Y_cV 28 rfl (pc2 := 55) rfl ok_fi_rowOf lk_gh_121 vi_fi_rowOf (ly_fi (by omega) (by omega)) rfl (by decide) rfl (as := [.int _]) (rest := []) rfl rfl (T_fi_rowOf (by omega) (by omega) (by omega)) ?_
        rintro _ _ ⟨rfl, rfl⟩
        change Y _ _ _ _ _ [.ref _] _ _
        refine Y_astore 29 rfl (pc2 := 57) rfl (Nat.le_of_ble_eq_true rfl) (ls2 := [some (.ref _), some (.int _), some (.int _), some (.int _), some (.int _), some (.int _), some (.ref _), none]) rfl ?_
        refine Y_aload 30 rfl (pc2 := 59) rfl rfl ?_
        refine Y_iload 31 rfl (pc2 := 61) rfl rfl ?_
        refine Y_iald 32 rfl (pc2 := 62) rfl (ly_fiR (by omega) (by omega) (by omega)) rfl (by omega) (sz_lt (by omega)) ?_
        refine Y_top (h.r l f g s hl hf hg hs) ?_
        refine Y_istore 33 rfl (pc2 := 64) rfl (Nat.le_of_ble_eq_true rfl) (ls2 := [some (.ref _), some (.int _), some (.int _), some (.int _), some (.int _), some (.int _), some (.ref _), some (.int _)]) rfl ?_
        refine Y_aload 34 rfl (pc2 := 66) rfl rfl ?_
        refine Y_iload 35 rfl (pc2 := 68) rfl rfl ?_
        refine Y_iload 36 rfl (pc2 := 70) rfl rfl ?_
        refine Y_iast 37 rfl (pc2 := 71) rfl (ly_fiR (by omega) (by omega) (by omega)) rfl (by omega) (sz_lt (by omega)) rfl ?_
        refine Y_iload 38 rfl (pc2 := 73) rfl rfl ?_
        refine Y_iret 39 rfl rfl rfl ⟨rfl, ?_⟩
        exact ⟨by unfold sp_strike; rw [cI_t (show stC _ _ _ _ _ from ⟨⟨⟨⟨l, hl, rfl⟩, ⟨f, hf, rfl⟩⟩, by rw [nv_nI (by omega)]; exact ⟨s, hs, rfl⟩⟩, ⟨g, hg, rfl⟩, hO⟩), nv_nI (k := l) (by omega), nv_nI (k := f) (by omega), nv_nI (k := g) (by omega), nv_nI (k := s) (by omega)], by unfold st_strike; rw [cI_t (show stC _ _ _ _ _ from ⟨⟨⟨⟨l, hl, rfl⟩, ⟨f, hf, rfl⟩⟩, by rw [nv_nI (by omega)]; exact ⟨s, hs, rfl⟩⟩, ⟨g, hg, rfl⟩, hO⟩), nv_nI (k := l) (by omega), nv_nI (k := f) (by omega), nv_nI (k := g) (by omega), nv_nI (k := s) (by omega)]; exact RC_strike h hl hf hg hs (mtd_oS hO), fun a ha => funext fun k => uw_ne (by omega)⟩
      · refine Y_iload 15 rfl (pc2 := 31) rfl rfl ?_
        refine Y_cS 16 rfl (pc2 := 34) rfl ok_gh_isShift lk_gh_113 vs_gh_isShift (as := [.int _]) (rest := []) rfl rfl T_gh_isShift ?_
        rintro _ _ ⟨rfl, rfl⟩
        change Y _ _ _ _ _ [.int _] _ _
        refine Y_if_neb 17 rfl (pc2 := 37) rfl (tgt := 40) (by decide) (fun h34 => ?_) (fun h34 => ?_)
        · have hO : shO v := by first | exact Or.inl h26 | exact Or.inr h34
          refine Y_aload_n 20 rfl (pc2 := 41) rfl rfl ?_
          refine Y_getR 21 rfl (pc2 := 44) rfl fl_gh_31 ly_gh (by decide) rfl rfl (by omega) ?_
          refine Y_iload_n 22 rfl (pc2 := 45) rfl rfl ?_
          refine Y_aald 23 rfl (pc2 := 46) rfl ly_ghL (by decide) (fun _ => rfl) rfl (by omega) (by decide) (ly_ghL_at (by omega)) (by omega) ?_
          refine Y_getR 24 rfl (pc2 := 49) rfl fl_gh_117 (ly_le (by omega)) (by decide) rfl rfl (by omega) ?_
          refine Y_iload_n 25 rfl (pc2 := 50) rfl rfl ?_
          refine Y_aald 26 rfl (pc2 := 51) rfl (ly_leF (by omega)) (by decide) (fun _ => rfl) rfl (by omega) (by decide) (ly_leF_at (by omega)) (by omega) ?_
          refine Y_iload_n 27 rfl (pc2 := 52) rfl rfl ?_
          refine Y_cV 28 rfl (pc2 := 55) rfl ok_fi_rowOf lk_gh_121 vi_fi_rowOf (ly_fi (by omega) (by omega)) rfl (by decide) rfl (as := [.int _]) (rest := []) rfl rfl (T_fi_rowOf (by omega) (by omega) (by omega)) ?_
          rintro _ _ ⟨rfl, rfl⟩
          change Y _ _ _ _ _ [.ref _] _ _
          refine Y_astore 29 rfl (pc2 := 57) rfl (Nat.le_of_ble_eq_true rfl) (ls2 := [some (.ref _), some (.int _), some (.int _), some (.int _), some (.int _), some (.int _), some (.ref _), none]) rfl ?_
          refine Y_aload 30 rfl (pc2 := 59) rfl rfl ?_
          refine Y_iload 31 rfl (pc2 := 61) rfl rfl ?_
          refine Y_iald 32 rfl (pc2 := 62) rfl (ly_fiR (by omega) (by omega) (by omega)) rfl (by omega) (sz_lt (by omega)) ?_
          refine Y_top (h.r l f g s hl hf hg hs) ?_
          refine Y_istore 33 rfl (pc2 := 64) rfl (Nat.le_of_ble_eq_true rfl) (ls2 := [some (.ref _), some (.int _), some (.int _), some (.int _), some (.int _), some (.int _), some (.ref _), some (.int _)]) rfl ?_
          refine Y_aload 34 rfl (pc2 := 66) rfl rfl ?_
          refine Y_iload 35 rfl (pc2 := 68) rfl rfl ?_
          refine Y_iload 36 rfl (pc2 := 70) rfl rfl ?_
          refine Y_iast 37 rfl (pc2 := 71) rfl (ly_fiR (by omega) (by omega) (by omega)) rfl (by omega) (sz_lt (by omega)) rfl ?_
          refine Y_iload 38 rfl (pc2 := 73) rfl rfl ?_
          refine Y_iret 39 rfl rfl rfl ⟨rfl, ?_⟩
          exact ⟨by unfold sp_strike; rw [cI_t (show stC _ _ _ _ _ from ⟨⟨⟨⟨l, hl, rfl⟩, ⟨f, hf, rfl⟩⟩, by rw [nv_nI (by omega)]; exact ⟨s, hs, rfl⟩⟩, ⟨g, hg, rfl⟩, hO⟩), nv_nI (k := l) (by omega), nv_nI (k := f) (by omega), nv_nI (k := g) (by omega), nv_nI (k := s) (by omega)], by unfold st_strike; rw [cI_t (show stC _ _ _ _ _ from ⟨⟨⟨⟨l, hl, rfl⟩, ⟨f, hf, rfl⟩⟩, by rw [nv_nI (by omega)]; exact ⟨s, hs, rfl⟩⟩, ⟨g, hg, rfl⟩, hO⟩), nv_nI (k := l) (by omega), nv_nI (k := f) (by omega), nv_nI (k := g) (by omega), nv_nI (k := s) (by omega)]; exact RC_strike h hl hf hg hs (mtd_oS hO), fun a ha => funext fun k => uw_ne (by omega)⟩
        · refine Y_ldc 18 rfl (pc2 := 39) rfl kc_gh_75 ?_
          refine Y_iret 19 rfl rfl rfl ⟨rfl, ?_⟩
          exact pc_bad h (by unfold sp_strike; rw [cI_f (fun e => e.2.2.elim h26 h34)]; rfl) (by unfold st_strike; rw [cI_f (fun e => e.2.2.elim h26 h34)])
    · refine Y_ldc 10 rfl (pc2 := 21) rfl kc_gh_75 ?_
      refine Y_iret 11 rfl rfl rfl ⟨rfl, ?_⟩
      first | exact pc_bad h (by unfold sp_strike; rw [cI_f (fun e => h8 e.1)]; rfl) (by unfold st_strike; rw [cI_f (fun e => h8 e.1)]) | exact pc_bad h (by unfold sp_strike; rw [cI_f (fun e => h16 e.2.1)]; rfl) (by unfold st_strike; rw [cI_f (fun e => h16 e.2.1)])

set_option maxHeartbeats 400000 in
theorem T_gh_together {G : Nat × (Nat → Int32)} {m : Mm} {S : Mm} (h : RC m S) (w : WF S) {x y z u : Int32} : Y G M_gh_together (0, 0) 0 (en_ M_gh_together [.ref (0), .int (x), .int (y), .int (z), .int (u)]) [] (LAY, m) (qm_ LAY (pc_ (sp_tog S x y z u) m (st_tog S x y z u))) := by
  change Y _ _ _ _ [some (.ref _), some (.int _), some (.int _), some (.int _), some (.int _), none, none] _ _ _
  refine Y_aload_n 0 rfl (pc2 := 1) rfl rfl ?_
  refine Y_iload_n 1 rfl (pc2 := 2) rfl rfl ?_
  refine Y_iload_n 2 rfl (pc2 := 3) rfl rfl ?_
  refine Y_iload_n 3 rfl (pc2 := 4) rfl rfl ?_
  refine Y_cV 4 rfl (pc2 := 7) rfl ok_gh_hasStep lk_gh_109 vi_gh_hasStep ly_gh rfl (by decide) rfl (as := [.int _, .int _, .int _]) (rest := []) rfl rfl (T_gh_hasStep h w) ?_
  rintro _ _ ⟨rfl, rfl⟩
  change Y _ _ _ _ _ [.int _] _ _
  refine Y_if_eqb 5 rfl (pc2 := 10) rfl (tgt := 19) (by decide) (fun h7 => ?_) (fun h7 => ?_)
  · refine Y_ldc 10 rfl (pc2 := 21) rfl kc_gh_75 ?_
    refine Y_iret 11 rfl rfl rfl ⟨rfl, ?_⟩
    first | exact pc_bad h (by unfold sp_tog; rw [cI_f (fun e => h7 e.1)]; rfl) (by unfold st_tog; rw [cI_f (fun e => h7 e.1)]) | exact pc_bad h (by unfold sp_tog; rw [cI_f (fun e => h16 e.2)]; rfl) (by unfold st_tog; rw [cI_f (fun e => h16 e.2)])
  · obtain ⟨⟨⟨l, hl, rfl⟩, ⟨f, hf, rfl⟩⟩, hs0⟩ := h7
    rw [nv_nI (by omega)] at hs0
    obtain ⟨s, hs, rfl⟩ := hs0
    have hz := sz_16 hl
    refine Y_iload 6 rfl (pc2 := 12) rfl rfl ?_
    refine Y_iconst 7 rfl (pc2 := 13) rfl (v := nI 2) (by decide) ?_
    refine Y_cS 8 rfl (pc2 := 16) rfl ok_gh_isBelow lk_gh_80 vs_gh_isBelow (as := [.int _, .int _]) (rest := []) rfl rfl (T_gh_isBelow (by omega)) ?_
    rintro _ _ ⟨rfl, rfl⟩
    change Y _ _ _ _ _ [.int _] _ _
    refine Y_if_neb 9 rfl (pc2 := 19) rfl (tgt := 22) (by decide) (fun h16 => ?_) (fun h16 => ?_)
    · obtain ⟨o, ho, rfl⟩ := h16
      obtain ⟨q, hq, hm1⟩ := w.m (iy l f s) (by unfold iy; omega)
      refine Y_aload_n 12 rfl (pc2 := 23) rfl rfl ?_
      refine Y_getR 13 rfl (pc2 := 26) rfl fl_gh_31 ly_gh (by decide) rfl rfl (by omega) ?_
      refine Y_iload_n 14 rfl (pc2 := 27) rfl rfl ?_
      refine Y_aald 15 rfl (pc2 := 28) rfl ly_ghL (by decide) (fun _ => rfl) rfl (by omega) (by decide) (ly_ghL_at (by omega)) (by omega) ?_
      refine Y_getR 16 rfl (pc2 := 31) rfl fl_gh_117 (ly_le (by omega)) (by decide) rfl rfl (by omega) ?_
      refine Y_iload_n 17 rfl (pc2 := 32) rfl rfl ?_
      refine Y_aald 18 rfl (pc2 := 33) rfl (ly_leF (by omega)) (by decide) (fun _ => rfl) rfl (by omega) (by decide) (ly_leF_at (by omega)) (by omega) ?_
      refine Y_getR 19 rfl (pc2 := 36) rfl fl_gh_150 (ly_fi (by omega) (by omega)) (by decide) rfl rfl (by omega) ?_
      refine Y_astore 20 rfl (pc2 := 38) rfl (Nat.le_of_ble_eq_true rfl) (ls2 := [some (.ref _), some (.int _), some (.int _), some (.int _), some (.int _), some (.ref _), none]) rfl ?_
      refine Y_aload 21 rfl (pc2 := 40) rfl rfl ?_
      refine Y_iload_n 22 rfl (pc2 := 41) rfl rfl ?_
      refine Y_zald 23 rfl (pc2 := 42) rfl (ly_fiB (by omega) (by omega)) rfl (by omega) (sz_lt (by omega)) ?_
      refine Y_top ((h.m l f s hl hf hs).trans hm1) ?_
      refine Y_if_eqn 24 rfl (pc2 := 45) rfl (tgt := 49) (by decide) (by omega) (fun h42 => ?_) (fun h42 => ?_)
      · refine Y_iconst 27 rfl (pc2 := 50) rfl (v := nI 0) (by decide) ?_
        refine Y_istore 28 rfl (pc2 := 52) rfl (Nat.le_of_ble_eq_true rfl) (ls2 := [some (.ref _), some (.int _), some (.int _), some (.int _), some (.int _), some (.ref _), some (.int _)]) rfl ?_
        refine Y_aload 29 rfl (pc2 := 54) rfl rfl ?_
        refine Y_iload_n 30 rfl (pc2 := 55) rfl rfl ?_
        refine Y_iload 31 rfl (pc2 := 57) rfl rfl ?_
        refine Y_iconst 32 rfl (pc2 := 58) rfl (v := nI 1) (by decide) ?_
        refine Y_icmp_nen 33 rfl (pc2 := 61) rfl (tgt := 65) (by decide) (by omega) (by omega) (fun h58 => ?_) (fun h58 => ?_)
        · refine Y_iconst 36 rfl (pc2 := 66) rfl (v := nI 0) (by decide) ?_
          refine Y_zast 37 rfl (pc2 := 67) rfl (ly_fiB (by omega) (by omega)) rfl (by omega) (sz_lt (by omega)) rfl ?_
          refine Y_iload 38 rfl (pc2 := 69) rfl rfl ?_
          refine Y_iret 39 rfl rfl rfl ⟨rfl, ?_⟩
          refine ⟨?_, ?_, fun a ha => funext fun k => uw_ne (by omega)⟩
          · unfold sp_tog; rw [cI_t (show toC _ _ _ _ from ⟨⟨⟨⟨l, hl, rfl⟩, ⟨f, hf, rfl⟩⟩, by rw [nv_nI (by omega)]; exact ⟨s, hs, rfl⟩⟩, ⟨o, ho, rfl⟩⟩), nv_nI (k := l) (by omega), nv_nI (k := f) (by omega), nv_nI (k := s) (by omega)]; rw [hm1]; first | rw [show q = 1 by omega] | rw [show q = 0 by omega]
          · unfold st_tog; rw [cI_t (show toC _ _ _ _ from ⟨⟨⟨⟨l, hl, rfl⟩, ⟨f, hf, rfl⟩⟩, by rw [nv_nI (by omega)]; exact ⟨s, hs, rfl⟩⟩, ⟨o, ho, rfl⟩⟩), nv_nI (k := l) (by omega), nv_nI (k := f) (by omega), nv_nI (k := s) (by omega)]
            have e := RC_tog h hl hf hs (v := nI o)
            first
              | (rw [show o = 1 by omega] at e ⊢; exact e)
              | (rw [show o = 0 by omega] at e ⊢; exact e)
        · refine Y_iconst 34 rfl (pc2 := 62) rfl (v := nI 1) (by decide) ?_
          refine Y_goto 35 rfl (pc2 := 66) (by decide) ?_
          refine Y_zast 37 rfl (pc2 := 67) rfl (ly_fiB (by omega) (by omega)) rfl (by omega) (sz_lt (by omega)) rfl ?_
          refine Y_iload 38 rfl (pc2 := 69) rfl rfl ?_
          refine Y_iret 39 rfl rfl rfl ⟨rfl, ?_⟩
          refine ⟨?_, ?_, fun a ha => funext fun k => uw_ne (by omega)⟩
          · unfold sp_tog; rw [cI_t (show toC _ _ _ _ from ⟨⟨⟨⟨l, hl, rfl⟩, ⟨f, hf, rfl⟩⟩, by rw [nv_nI (by omega)]; exact ⟨s, hs, rfl⟩⟩, ⟨o, ho, rfl⟩⟩), nv_nI (k := l) (by omega), nv_nI (k := f) (by omega), nv_nI (k := s) (by omega)]; rw [hm1]; first | rw [show q = 1 by omega] | rw [show q = 0 by omega]
          · unfold st_tog; rw [cI_t (show toC _ _ _ _ from ⟨⟨⟨⟨l, hl, rfl⟩, ⟨f, hf, rfl⟩⟩, by rw [nv_nI (by omega)]; exact ⟨s, hs, rfl⟩⟩, ⟨o, ho, rfl⟩⟩), nv_nI (k := l) (by omega), nv_nI (k := f) (by omega), nv_nI (k := s) (by omega)]
            have e := RC_tog h hl hf hs (v := nI o)
            first
              | (rw [show o = 1 by omega] at e ⊢; exact e)
              | (rw [show o = 0 by omega] at e ⊢; exact e)
      · refine Y_iconst 25 rfl (pc2 := 46) rfl (v := nI 1) (by decide) ?_
        refine Y_goto 26 rfl (pc2 := 50) (by decide) ?_
        refine Y_istore 28 rfl (pc2 := 52) rfl (Nat.le_of_ble_eq_true rfl) (ls2 := [some (.ref _), some (.int _), some (.int _), some (.int _), some (.int _), some (.ref _), some (.int _)]) rfl ?_
        refine Y_aload 29 rfl (pc2 := 54) rfl rfl ?_
        refine Y_iload_n 30 rfl (pc2 := 55) rfl rfl ?_
        refine Y_iload 31 rfl (pc2 := 57) rfl rfl ?_
        refine Y_iconst 32 rfl (pc2 := 58) rfl (v := nI 1) (by decide) ?_
        refine Y_icmp_nen 33 rfl (pc2 := 61) rfl (tgt := 65) (by decide) (by omega) (by omega) (fun h58 => ?_) (fun h58 => ?_)
        · refine Y_iconst 36 rfl (pc2 := 66) rfl (v := nI 0) (by decide) ?_
          refine Y_zast 37 rfl (pc2 := 67) rfl (ly_fiB (by omega) (by omega)) rfl (by omega) (sz_lt (by omega)) rfl ?_
          refine Y_iload 38 rfl (pc2 := 69) rfl rfl ?_
          refine Y_iret 39 rfl rfl rfl ⟨rfl, ?_⟩
          refine ⟨?_, ?_, fun a ha => funext fun k => uw_ne (by omega)⟩
          · unfold sp_tog; rw [cI_t (show toC _ _ _ _ from ⟨⟨⟨⟨l, hl, rfl⟩, ⟨f, hf, rfl⟩⟩, by rw [nv_nI (by omega)]; exact ⟨s, hs, rfl⟩⟩, ⟨o, ho, rfl⟩⟩), nv_nI (k := l) (by omega), nv_nI (k := f) (by omega), nv_nI (k := s) (by omega)]; rw [hm1]; first | rw [show q = 1 by omega] | rw [show q = 0 by omega]
          · unfold st_tog; rw [cI_t (show toC _ _ _ _ from ⟨⟨⟨⟨l, hl, rfl⟩, ⟨f, hf, rfl⟩⟩, by rw [nv_nI (by omega)]; exact ⟨s, hs, rfl⟩⟩, ⟨o, ho, rfl⟩⟩), nv_nI (k := l) (by omega), nv_nI (k := f) (by omega), nv_nI (k := s) (by omega)]
            have e := RC_tog h hl hf hs (v := nI o)
            first
              | (rw [show o = 1 by omega] at e ⊢; exact e)
              | (rw [show o = 0 by omega] at e ⊢; exact e)
        · refine Y_iconst 34 rfl (pc2 := 62) rfl (v := nI 1) (by decide) ?_
          refine Y_goto 35 rfl (pc2 := 66) (by decide) ?_
          refine Y_zast 37 rfl (pc2 := 67) rfl (ly_fiB (by omega) (by omega)) rfl (by omega) (sz_lt (by omega)) rfl ?_
          refine Y_iload 38 rfl (pc2 := 69) rfl rfl ?_
          refine Y_iret 39 rfl rfl rfl ⟨rfl, ?_⟩
          refine ⟨?_, ?_, fun a ha => funext fun k => uw_ne (by omega)⟩
          · unfold sp_tog; rw [cI_t (show toC _ _ _ _ from ⟨⟨⟨⟨l, hl, rfl⟩, ⟨f, hf, rfl⟩⟩, by rw [nv_nI (by omega)]; exact ⟨s, hs, rfl⟩⟩, ⟨o, ho, rfl⟩⟩), nv_nI (k := l) (by omega), nv_nI (k := f) (by omega), nv_nI (k := s) (by omega)]; rw [hm1]; first | rw [show q = 1 by omega] | rw [show q = 0 by omega]
          · unfold st_tog; rw [cI_t (show toC _ _ _ _ from ⟨⟨⟨⟨l, hl, rfl⟩, ⟨f, hf, rfl⟩⟩, by rw [nv_nI (by omega)]; exact ⟨s, hs, rfl⟩⟩, ⟨o, ho, rfl⟩⟩), nv_nI (k := l) (by omega), nv_nI (k := f) (by omega), nv_nI (k := s) (by omega)]
            have e := RC_tog h hl hf hs (v := nI o)
            first
              | (rw [show o = 1 by omega] at e ⊢; exact e)
              | (rw [show o = 0 by omega] at e ⊢; exact e)
    · refine Y_ldc 10 rfl (pc2 := 21) rfl kc_gh_75 ?_
      refine Y_iret 11 rfl rfl rfl ⟨rfl, ?_⟩
      first | exact pc_bad h (by unfold sp_tog; rw [cI_f (fun e => h7 e.1)]; rfl) (by unfold st_tog; rw [cI_f (fun e => h7 e.1)]) | exact pc_bad h (by unfold sp_tog; rw [cI_f (fun e => h16 e.2)]; rfl) (by unfold st_tog; rw [cI_f (fun e => h16 e.2)])

set_option maxHeartbeats 400000 in
theorem T_gh_use {G : Nat × (Nat → Int32)} {m : Mm} {S : Mm} (h : RC m S) (w : WF S) {x y z : Int32} : Y G M_gh_use (0, 0) 0 (en_ M_gh_use [.ref (0), .int (x), .int (y), .int (z)]) [] (LAY, m) (qm_ LAY (pc_ (sp_use S x y z) m (st_use S x y z))) := by
  change Y _ _ _ _ [some (.ref _), some (.int _), some (.int _), some (.int _), none] _ _ _
  refine Y_iload_n 0 rfl (pc2 := 1) rfl rfl ?_
  refine Y_iload_n 1 rfl (pc2 := 2) rfl rfl ?_
  refine Y_cS 2 rfl (pc2 := 5) rfl ok_gh_hasFigure lk_gh_127 vs_gh_hasFigure (as := [.int _, .int _]) (rest := []) rfl rfl T_gh_hasFigure ?_
  rintro _ _ ⟨rfl, rfl⟩
  change Y _ _ _ _ _ [.int _] _ _
  refine Y_if_eqb 3 rfl (pc2 := 8) rfl (tgt := 16) (by decide) (fun h5 => ?_) (fun h5 => ?_)
  · refine Y_ldc 8 rfl (pc2 := 18) rfl kc_gh_75 ?_
    refine Y_iret 9 rfl rfl rfl ⟨rfl, ?_⟩
    first | exact pc_bad h (by unfold sp_use; rw [cI_f (fun e => h5 e.1)]; rfl) (by unfold st_use; rw [cI_f (fun e => h5 e.1)]) | exact pc_bad h (by unfold sp_use; rw [cI_f (fun e => h13 e.2)]; rfl) (by unfold st_use; rw [cI_f (fun e => h13 e.2)])
  · obtain ⟨⟨l, hl, rfl⟩, ⟨f, hf, rfl⟩⟩ := h5
    refine Y_iload_n 4 rfl (pc2 := 9) rfl rfl ?_
    refine Y_iconst 5 rfl (pc2 := 10) rfl (v := nI 3) (by decide) ?_
    refine Y_cS 6 rfl (pc2 := 13) rfl ok_gh_isBelow lk_gh_80 vs_gh_isBelow (as := [.int _, .int _]) (rest := []) rfl rfl (T_gh_isBelow (by omega)) ?_
    rintro _ _ ⟨rfl, rfl⟩
    change Y _ _ _ _ _ [.int _] _ _
    refine Y_if_neb 7 rfl (pc2 := 16) rfl (tgt := 19) (by decide) (fun h13 => ?_) (fun h13 => ?_)
    · obtain ⟨k, hk, rfl⟩ := h13
      refine Y_aload_n 10 rfl (pc2 := 20) rfl rfl ?_
      refine Y_getR 11 rfl (pc2 := 23) rfl fl_gh_31 ly_gh (by decide) rfl rfl (by omega) ?_
      refine Y_iload_n 12 rfl (pc2 := 24) rfl rfl ?_
      refine Y_aald 13 rfl (pc2 := 25) rfl ly_ghL (by decide) (fun _ => rfl) rfl (by omega) (by decide) (ly_ghL_at (by omega)) (by omega) ?_
      refine Y_getR 14 rfl (pc2 := 28) rfl fl_gh_158 (ly_le (by omega)) (by decide) rfl rfl (by omega) ?_
      refine Y_iload_n 15 rfl (pc2 := 29) rfl rfl ?_
      refine Y_iald 16 rfl (pc2 := 30) rfl (ly_leU (by omega)) rfl (by omega) (by decide) ?_
      refine Y_top (h.us l k hl hk) ?_
      refine Y_istore 17 rfl (pc2 := 32) rfl (Nat.le_of_ble_eq_true rfl) (ls2 := [some (.ref _), some (.int _), some (.int _), some (.int _), some (.int _)]) rfl ?_
      refine Y_aload_n 18 rfl (pc2 := 33) rfl rfl ?_
      refine Y_getR 19 rfl (pc2 := 36) rfl fl_gh_31 ly_gh (by decide) rfl rfl (by omega) ?_
      refine Y_iload_n 20 rfl (pc2 := 37) rfl rfl ?_
      refine Y_aald 21 rfl (pc2 := 38) rfl ly_ghL (by decide) (fun _ => rfl) rfl (by omega) (by decide) (ly_ghL_at (by omega)) (by omega) ?_
      refine Y_getR 22 rfl (pc2 := 41) rfl fl_gh_158 (ly_le (by omega)) (by decide) rfl rfl (by omega) ?_
      refine Y_iload_n 23 rfl (pc2 := 42) rfl rfl ?_
      refine Y_iload_n 24 rfl (pc2 := 43) rfl rfl ?_
      refine Y_iast 25 rfl (pc2 := 44) rfl (ly_leU (by omega)) rfl (by omega) (by decide) rfl ?_
      refine Y_iload 26 rfl (pc2 := 46) rfl rfl ?_
      refine Y_iret 27 rfl rfl rfl ⟨rfl, ?_⟩
      exact ⟨by unfold sp_use; rw [cI_t (show usC _ _ _ from ⟨⟨⟨l, hl, rfl⟩, ⟨f, hf, rfl⟩⟩, ⟨k, hk, rfl⟩⟩), nv_nI (k := l) (by omega), nv_nI (k := k) (by omega)], by unfold st_use; rw [cI_t (show usC _ _ _ from ⟨⟨⟨l, hl, rfl⟩, ⟨f, hf, rfl⟩⟩, ⟨k, hk, rfl⟩⟩), nv_nI (k := l) (by omega), nv_nI (k := k) (by omega)]; exact RC_use h hl hk, fun a ha => funext fun q => uw_ne (by omega)⟩
    · refine Y_ldc 8 rfl (pc2 := 18) rfl kc_gh_75 ?_
      refine Y_iret 9 rfl rfl rfl ⟨rfl, ?_⟩
      first | exact pc_bad h (by unfold sp_use; rw [cI_f (fun e => h5 e.1)]; rfl) (by unfold st_use; rw [cI_f (fun e => h5 e.1)]) | exact pc_bad h (by unfold sp_use; rw [cI_f (fun e => h13 e.2)]; rfl) (by unfold st_use; rw [cI_f (fun e => h13 e.2)])

set_option maxHeartbeats 400000 in
theorem iR_le {x : Int32} {n : Nat} (hn : n + 1 < 2 ^ 31) : iR x (n + 1) ↔ (¬ x < 0 ∧ x ≤ nI n) := by
  constructor
  · rintro ⟨k, hk, rfl⟩
    exact ⟨nI_pos (by omega), (nI_leI (by omega) (by omega)).mpr (by omega)⟩
  · rintro ⟨h1, h2⟩
    obtain ⟨j, hj, rfl⟩ := nI_of h1
    have := (nI_leI hj (by omega)).mp h2
    exact ⟨j, by omega, rfl⟩

set_option maxHeartbeats 400000 in
theorem T_gh_trim {G : Nat × (Nat → Int32)} {m : Mm} {S : Mm} (h : RC m S) (w : WF S) {x : Int32} : Y G M_gh_trim (0, 0) 0 (en_ M_gh_trim [.ref (0), .int (x)]) [] (LAY, m) (qm_ LAY (pc_ (sp_trim S x) m (st_trim S x))) := by
  change Y _ _ _ _ [some (.ref _), some (.int _)] _ _ _
  have ht := w.tp.2
  have hI := iR_le (x := x) (n := tpd S) (by omega)
  refine Y_iload_n 0 rfl (pc2 := 1) rfl rfl ?_
  refine Y_if_lt 1 rfl (pc2 := 4) rfl (tgt := 15) (by decide) (fun h1 => ?_) (fun h1 => ?_)
  · refine Y_ldc 7 rfl (pc2 := 17) rfl kc_gh_75 ?_
    refine Y_iret 8 rfl rfl rfl ⟨rfl, ?_⟩
    first | exact pc_bad h (by unfold sp_trim; rw [cI_f (fun e => (hI.mp e).1 h1)]; rfl) (by unfold st_trim; rw [cI_f (fun e => (hI.mp e).1 h1)]) | exact pc_bad h (by unfold sp_trim; rw [cI_f (fun e => h12 (hI.mp e).2)]; rfl) (by unfold st_trim; rw [cI_f (fun e => h12 (hI.mp e).2)])
  · refine Y_iload_n 2 rfl (pc2 := 5) rfl rfl ?_
    refine Y_aload_n 3 rfl (pc2 := 6) rfl rfl ?_
    refine Y_getR 4 rfl (pc2 := 9) rfl fl_gh_10 ly_gh (by decide) rfl rfl (by omega) ?_
    refine Y_getI 5 rfl (pc2 := 12) rfl fl_gh_67 ly_ta (by decide) rfl ?_
    refine Y_top (h.tp.trans w.tp.1) ?_
    refine Y_icmp_le 6 rfl (pc2 := 15) rfl (tgt := 18) (by decide) (fun h12 => ?_) (fun h12 => ?_)
    · refine Y_aload_n 9 rfl (pc2 := 19) rfl rfl ?_
      refine Y_getR 10 rfl (pc2 := 22) rfl fl_gh_10 ly_gh (by decide) rfl rfl (by omega) ?_
      refine Y_iload_n 11 rfl (pc2 := 23) rfl rfl ?_
      refine Y_putI 12 rfl (pc2 := 26) rfl fl_gh_67 ly_ta (by decide) ⟨rfl, rfl⟩ ⟨_, _, _, rfl, rfl⟩ rfl ?_
      refine Y_iload_n 13 rfl (pc2 := 27) rfl rfl ?_
      refine Y_iret 14 rfl rfl rfl ⟨rfl, ?_⟩
      exact ⟨by unfold sp_trim; rw [cI_t (hI.mpr ⟨h1, h12⟩)], by unfold st_trim; rw [cI_t (hI.mpr ⟨h1, h12⟩)]; exact RC_trim h, fun a ha => funext fun q => uw_ne (by omega)⟩
    · refine Y_ldc 7 rfl (pc2 := 17) rfl kc_gh_75 ?_
      refine Y_iret 8 rfl rfl rfl ⟨rfl, ?_⟩
      first | exact pc_bad h (by unfold sp_trim; rw [cI_f (fun e => (hI.mp e).1 h1)]; rfl) (by unfold st_trim; rw [cI_f (fun e => (hI.mp e).1 h1)]) | exact pc_bad h (by unfold sp_trim; rw [cI_f (fun e => h12 (hI.mp e).2)]; rfl) (by unfold st_trim; rw [cI_f (fun e => h12 (hI.mp e).2)])
