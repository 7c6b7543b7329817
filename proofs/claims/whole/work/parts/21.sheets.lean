/-! the class: sheets, laying, feeding -/
set_option maxHeartbeats 400000 in
theorem plc_is {S : Mm} (w : WF S) {s : Nat} (hs : s < 2) (h : ¬ S 165 s = -1) : S 165 s = nI (plc S s) ∧ plc S s ≤ 16 := by
  rcases w.pl s hs with e | ⟨k, hk, e⟩
  · exact absurd e h
  · unfold plc
    rw [e, nv_nI (by omega)]
    exact ⟨rfl, by omega⟩
set_option maxHeartbeats 400000 in
theorem plc_no {S : Mm} {s : Nat} (h : S 165 s = -1) : plc S s = 0 := by
  unfold plc
  rw [h]; decide
noncomputable def sp_sheet (x n : Int32) : Int32 := cI (iR x 2 ∧ n ≤ nI 16) (if n < 0 then SIZE_ else n) BAD_
noncomputable def st_sheet (S : Mm) (x n : Int32) : Mm := cI (iR x 2 ∧ iR n 17) (ur_ (uw_ S 165 (nv x) n) 166 (fun k => if 16 * nv x ≤ k ∧ k < 16 * nv x + nv n then nI 0 else S 166 k)) S

set_option maxHeartbeats 400000 in
theorem RC_sheet {m S : Mm} (h : RC m S) (w : WF S) {s0 n0 : Nat} (hs0 : s0 < 2) (hn0 : n0 ≤ 16) : RC (ur_ (uw_ m (149 + 2 * s0) 1 (nI n0)) (150 + 2 * s0) (flr (uw_ m (149 + 2 * s0) 1 (nI n0) (150 + 2 * s0)) 16 (nI 0))) (ur_ (uw_ S 165 s0 (nI n0)) 166 (fun k => if 16 * s0 ≤ k ∧ k < 16 * s0 + n0 then nI 0 else S 166 k)) := by
  refine ⟨fun c hc => ?_, fun c b hc hb => ?_, fun c b hc hb => ?_, fun c b hc hb => ?_, fun c b hc hb => ?_, fun l hl => ?_, fun l f g s hl hf hg hs => ?_, fun l f s hl hf hs => ?_, fun l k hl hk => ?_, ?_, fun p hp => ?_, fun p hp => ?_, fun p hp => ?_, fun r hr => ?_, ?_, ?_, fun i hi => ?_, fun s hs => ?_, fun s i hs hi => ?_⟩
  · rw [ur_ne (by omega), uw_ne (by omega)]; exact h.b c hc
  · rw [ur_ne (by omega), uw_ne (by omega)]; exact h.n c b hc hb
  · rw [ur_ne (by omega), uw_ne (by omega)]; exact h.g c b hc hb
  · rw [ur_ne (by omega), uw_ne (by omega)]; exact h.t c b hc hb
  · rw [ur_ne (by omega), uw_ne (by omega)]; exact h.u c b hc hb
  · rw [ur_ne (by omega), uw_ne (by omega)]; exact h.l l hl
  · rw [ur_ne (by omega), uw_ne (by omega)]; exact h.r l f g s hl hf hg hs
  · rw [ur_ne (by omega), uw_ne (by omega)]; exact h.m l f s hl hf hs
  · rw [ur_ne (by omega), uw_ne (by omega)]; exact h.us l k hl hk
  · rw [ur_ne (by omega), uw_ne (by omega)]; exact h.p 
  · rw [ur_ne (by omega), uw_ne (by omega)]; exact h.c p hp
  · rw [ur_ne (by omega), uw_ne (by omega)]; exact h.pt p hp
  · rw [ur_ne (by omega), uw_ne (by omega)]; exact h.pl p hp
  · rw [ur_ne (by omega), uw_ne (by omega)]; exact h.sg r hr
  · rw [ur_ne (by omega), uw_ne (by omega)]; exact h.sn 
  · rw [ur_ne (by omega), uw_ne (by omega)]; exact h.tp 
  · rw [ur_ne (by omega), uw_ne (by omega)]; exact h.tv i hi
  · rw [ur_ne (by omega)]
    by_cases e : s = s0
    · rw [e, uw_same]; show _ = uw_ S 165 s0 (nI n0) 165 s0; rw [uw_same]
    · rw [uw_ne (by omega)]; show _ = uw_ S 165 s0 (nI n0) 165 s; rw [uw_ne (by omega)]; exact h.sp s hs
  · show _ = (if 16 * s0 ≤ 16 * s + i ∧ 16 * s + i < 16 * s0 + n0 then nI 0 else S 166 (16 * s + i))
    have hi2 : i < nv (uw_ S 165 s0 (nI n0) 165 s) := hi
    by_cases e : s = s0
    · rw [e] at hi2 ⊢
      rw [uw_same, nv_nI (by omega)] at hi2
      rw [ur_same, if_pos (by omega)]
      unfold flr
      rw [if_pos (by omega)]
    · rw [uw_ne (by omega)] at hi2
      have hp : plc S s ≤ 16 := by
        by_cases q : S 165 s = -1
        · rw [plc_no q]; omega
        · exact (plc_is w hs q).2
      have hi3 : i < plc S s := hi2
      rw [ur_ne (by omega), uw_ne (by omega), if_neg (by omega)]
      exact h.sb s i hs hi3

set_option maxHeartbeats 400000 in
theorem WF_sheet {S : Mm} (w : WF S) {s0 n0 : Nat} (hs0 : s0 < 2) (hn0 : n0 ≤ 16) : WF (ur_ (uw_ S 165 s0 (nI n0)) 166 (fun k => if 16 * s0 ≤ k ∧ k < 16 * s0 + n0 then nI 0 else S 166 k)) := by
  refine ⟨fun c hc => ?_, fun i hi => ?_, fun i hi => ?_, fun i hi => ?_, fun i hi => ?_, fun l k hl hk => ?_, ?_, fun p hp => ?_, fun p hp => ?_, fun p hp => ?_, fun p hp => ?_, fun r hr => ?_, ?_, fun i hi => ?_, fun s hs => ?_, fun i hi => ?_, ?_⟩
  · exact w.b c hc
  · exact w.n i hi
  · exact w.g i hi
  · exact w.s i hi
  · exact w.m i hi
  · exact w.u l k hl hk
  · exact w.p 
  · exact w.c p hp
  · exact w.t p hp
  · exact w.t1 p hp
  · exact w.l p hp
  · exact w.r r hr
  · exact w.tp 
  · exact w.tv i hi
  · show oR (uw_ S 165 s0 (nI n0) 165 s) 17
    by_cases e : s = s0
    · rw [e, uw_same]; exact Or.inr ⟨n0, by omega, rfl⟩
    · rw [uw_ne (by omega)]; exact w.pl s hs
  · show (if 16 * s0 ≤ i ∧ i < 16 * s0 + n0 then nI 0 else S 166 i).toInt8.toInt32 = (if 16 * s0 ≤ i ∧ i < 16 * s0 + n0 then nI 0 else S 166 i)
    split
    · decide
    · exact w.k i hi
  · exact w.sg 

set_option maxHeartbeats 400000 in
theorem T_sh_lengthen {G : Nat × (Nat → Int32)} {m : Mm} {s0 n0 : Nat} (hs0 : s0 < 2) : Y G M_sh_lengthen (0, 0) 0 (en_ M_sh_lengthen [.ref (149 + 2 * s0), .int (nI n0)]) [] (LAY, m) (qm_ LAY (pf_ (ur_ (uw_ m (149 + 2 * s0) 1 (nI n0)) (150 + 2 * s0) (flr (uw_ m (149 + 2 * s0) 1 (nI n0) (150 + 2 * s0)) 16 (nI 0))))) := by
  change Y _ _ _ _ [some (.ref _), some (.int _)] _ _ _
  refine Y_aload_n 0 rfl (pc2 := 1) rfl rfl ?_
  refine Y_iload_n 1 rfl (pc2 := 2) rfl rfl ?_
  refine Y_putI 2 rfl (pc2 := 5) rfl fl_sh_15 (ly_sh (by omega)) (by decide) ⟨rfl, rfl⟩ ⟨_, _, _, rfl, rfl⟩ rfl ?_
  refine Y_aload_n 3 rfl (pc2 := 6) rfl rfl ?_
  refine Y_getR 4 rfl (pc2 := 9) rfl fl_sh_9 (ly_sh (by omega)) (by decide) rfl rfl (by omega) ?_
  refine Y_iconst 5 rfl (pc2 := 10) rfl (v := nI 0) (by decide) ?_
  refine Y_cS 6 rfl (pc2 := 13) rfl ok_ar_fillb lk_sh_19 vs_ar_fillb (as := [.ref _, .int _]) (rest := []) rfl rfl (T_ar_fillb (ly_shB hs0) (by decide) (by decide)) ?_
  rintro _ _ ⟨rfl, rfl⟩
  change Y _ _ _ _ _ [] _ _
  refine Y_vret 7 rfl rfl ⟨rfl, ?_⟩
  exact ⟨rfl, rfl⟩

set_option maxHeartbeats 400000 in
theorem T_gh_sheet {G : Nat × (Nat → Int32)} {m : Mm} {S : Mm} (h : RC m S) (w : WF S) {x n : Int32} : Y G M_gh_sheet (0, 0) 0 (en_ M_gh_sheet [.ref (0), .int (x), .int (n)]) [] (LAY, m) (qm_ LAY (pc_ (sp_sheet x n) m (st_sheet S x n))) := by
  change Y _ _ _ _ [some (.ref _), some (.int _), some (.int _)] _ _ _
  have hI := iR_le (x := n) (n := 16) (by omega)
  refine Y_iload_n 0 rfl (pc2 := 1) rfl rfl ?_
  refine Y_iconst 1 rfl (pc2 := 2) rfl (v := nI 2) (by decide) ?_
  refine Y_cS 2 rfl (pc2 := 5) rfl ok_gh_isBelow lk_gh_80 vs_gh_isBelow (as := [.int _, .int _]) (rest := []) rfl rfl (T_gh_isBelow (by omega)) ?_
  rintro _ _ ⟨rfl, rfl⟩
  change Y _ _ _ _ _ [.int _] _ _
  refine Y_if_eqb 3 rfl (pc2 := 8) rfl (tgt := 14) (by decide) (fun h5 => ?_) (fun h5 => ?_)
  · refine Y_ldc 7 rfl (pc2 := 16) rfl kc_gh_75 ?_
    refine Y_iret 8 rfl rfl rfl ⟨rfl, ?_⟩
    first | exact pc_bad h (by unfold sp_sheet; rw [cI_f (fun e => h5 e.1)]; rfl) (by unfold st_sheet; rw [cI_f (fun e => h5 e.1)]) | exact pc_bad h (by unfold sp_sheet; rw [cI_f (fun e => h11 e.2)]; rfl) (by unfold st_sheet; rw [cI_f (fun e => h11 (hI.mp e.2).2)])
  · obtain ⟨s, hs, rfl⟩ := h5
    refine Y_iload_n 4 rfl (pc2 := 9) rfl rfl ?_
    refine Y_bipush 5 rfl (pc2 := 11) rfl (v := nI 16) (by decide) ?_
    refine Y_icmp_le 6 rfl (pc2 := 14) rfl (tgt := 17) (by decide) (fun h11 => ?_) (fun h11 => ?_)
    · refine Y_iload_n 9 rfl (pc2 := 18) rfl rfl ?_
      refine Y_if_ge 10 rfl (pc2 := 21) rfl (tgt := 24) (by decide) (fun h18 => ?_) (fun h18 => ?_)
      · have hN : iR n 17 := hI.mpr ⟨Int32.not_lt.mpr h18, h11⟩
        obtain ⟨k, hk, rfl⟩ := hN
        refine Y_aload_n 13 rfl (pc2 := 25) rfl rfl ?_
        refine Y_getR 14 rfl (pc2 := 28) rfl fl_gh_58 ly_gh (by decide) rfl rfl (by omega) ?_
        refine Y_iload_n 15 rfl (pc2 := 29) rfl rfl ?_
        refine Y_aald 16 rfl (pc2 := 30) rfl ly_ghS (by decide) (fun _ => rfl) rfl (by omega) (by decide) (ly_ghS_at (by omega)) (by omega) ?_
        refine Y_iload_n 17 rfl (pc2 := 31) rfl rfl ?_
        refine Y_cV 18 rfl (pc2 := 34) rfl ok_sh_lengthen lk_gh_242 vi_sh_lengthen (ly_sh (by omega)) rfl (by decide) rfl (as := [.int _]) (rest := []) rfl rfl (T_sh_lengthen hs) ?_
        rintro _ _ ⟨rfl, rfl⟩
        change Y _ _ _ _ _ [] _ _
        refine Y_iload_n 19 rfl (pc2 := 35) rfl rfl ?_
        refine Y_iret 20 rfl rfl rfl ⟨rfl, ?_⟩
        exact ⟨by unfold sp_sheet; rw [cI_t ⟨⟨s, hs, rfl⟩, h11⟩, if_neg (Int32.not_lt.mpr h18)], by unfold st_sheet; rw [cI_t ⟨⟨s, hs, rfl⟩, ⟨k, hk, rfl⟩⟩, nv_nI (k := s) (by omega), nv_nI (k := k) (by omega)]; exact RC_sheet h w hs (by omega), fun a ha => by show ur_ _ _ _ a = _; rw [ur_ne (by omega)]; funext q; rw [uw_ne (by omega)]⟩
      · refine Y_ldc 11 rfl (pc2 := 23) rfl kc_gh_241 ?_
        refine Y_iret 12 rfl rfl rfl ⟨rfl, ?_⟩
        exact pc_bad h (by unfold sp_sheet; rw [cI_t ⟨⟨s, hs, rfl⟩, h11⟩, if_pos (Int32.not_le.mp h18)]; rfl) (by unfold st_sheet; rw [cI_f (fun e => (hI.mp e.2).1 (Int32.not_le.mp h18))])
    · refine Y_ldc 7 rfl (pc2 := 16) rfl kc_gh_75 ?_
      refine Y_iret 8 rfl rfl rfl ⟨rfl, ?_⟩
      first | exact pc_bad h (by unfold sp_sheet; rw [cI_f (fun e => h5 e.1)]; rfl) (by unfold st_sheet; rw [cI_f (fun e => h5 e.1)]) | exact pc_bad h (by unfold sp_sheet; rw [cI_f (fun e => h11 e.2)]; rfl) (by unfold st_sheet; rw [cI_f (fun e => h11 (hI.mp e.2).2)])

noncomputable def sp_mark (S : Mm) (x p : Int32) : Int32 := cI (iR x 2) (cI (S 165 (nv x) = -1) NOTHING_ (cI (iR p (plc S (nv x))) (S 166 (16 * nv x + nv p)) INDEX_)) BAD_
noncomputable def st_mark (S : Mm) (x p v : Int32) : Mm := cI (iR x 2 ∧ ¬ S 165 (nv x) = -1 ∧ iR p (plc S (nv x))) (uw_ S 166 (16 * nv x + nv p) v.toInt8.toInt32) S

set_option maxHeartbeats 400000 in
theorem RC_mark {m S : Mm} (h : RC m S) (w : WF S) {s0 i0 : Nat} {v : Int32} (hs0 : s0 < 2) (hi0 : i0 < 16) : RC (uw_ m (150 + 2 * s0) i0 v) (uw_ S 166 (16 * s0 + i0) v) := by
  refine ⟨fun c hc => ?_, fun c b hc hb => ?_, fun c b hc hb => ?_, fun c b hc hb => ?_, fun c b hc hb => ?_, fun l hl => ?_, fun l f g s hl hf hg hs => ?_, fun l f s hl hf hs => ?_, fun l k hl hk => ?_, ?_, fun p hp => ?_, fun p hp => ?_, fun p hp => ?_, fun r hr => ?_, ?_, ?_, fun i hi => ?_, fun s hs => ?_, fun s i hs hi => ?_⟩
  · (repeat rw [uw_ne (by omega)]); exact h.b c hc
  · (repeat rw [uw_ne (by omega)]); exact h.n c b hc hb
  · (repeat rw [uw_ne (by omega)]); exact h.g c b hc hb
  · (repeat rw [uw_ne (by omega)]); exact h.t c b hc hb
  · (repeat rw [uw_ne (by omega)]); exact h.u c b hc hb
  · (repeat rw [uw_ne (by omega)]); exact h.l l hl
  · (repeat rw [uw_ne (by omega)]); exact h.r l f g s hl hf hg hs
  · (repeat rw [uw_ne (by omega)]); exact h.m l f s hl hf hs
  · (repeat rw [uw_ne (by omega)]); exact h.us l k hl hk
  · (repeat rw [uw_ne (by omega)]); exact h.p 
  · (repeat rw [uw_ne (by omega)]); exact h.c p hp
  · (repeat rw [uw_ne (by omega)]); exact h.pt p hp
  · (repeat rw [uw_ne (by omega)]); exact h.pl p hp
  · (repeat rw [uw_ne (by omega)]); exact h.sg r hr
  · (repeat rw [uw_ne (by omega)]); exact h.sn 
  · (repeat rw [uw_ne (by omega)]); exact h.tp 
  · (repeat rw [uw_ne (by omega)]); exact h.tv i hi
  · (repeat rw [uw_ne (by omega)]); exact h.sp s hs
  · have hi3 : i < plc S s := hi
    have hp : plc S s ≤ 16 := by
      by_cases q : S 165 s = -1
      · rw [plc_no q]; omega
      · exact (plc_is w hs q).2
    by_cases e : s = s0 ∧ i = i0
    · obtain ⟨rfl, rfl⟩ := e
      rw [uw_same, uw_same]
    · rw [uw_ne (by omega), uw_ne (by omega)]; exact h.sb s i hs hi3

set_option maxHeartbeats 400000 in
theorem WF_mark {S : Mm} (w : WF S) {k0 : Nat} {v : Int32} (hv : v.toInt8.toInt32 = v) : WF (uw_ S 166 k0 v) := by
  refine ⟨fun c hc => ?_, fun i hi => ?_, fun i hi => ?_, fun i hi => ?_, fun i hi => ?_, fun l k hl hk => ?_, ?_, fun p hp => ?_, fun p hp => ?_, fun p hp => ?_, fun p hp => ?_, fun r hr => ?_, ?_, fun i hi => ?_, fun s hs => ?_, fun i hi => ?_, ?_⟩
  · exact w.b c hc
  · exact w.n i hi
  · exact w.g i hi
  · exact w.s i hi
  · exact w.m i hi
  · exact w.u l k hl hk
  · exact w.p 
  · exact w.c p hp
  · exact w.t p hp
  · exact w.t1 p hp
  · exact w.l p hp
  · exact w.r r hr
  · exact w.tp 
  · exact w.tv i hi
  · exact w.pl s hs
  · by_cases e : i = k0
    · rw [e, uw_same]; exact hv
    · rw [uw_ne (by omega)]; exact w.k i hi
  · exact w.sg 

set_option maxHeartbeats 400000 in
theorem T_gh_mark {G : Nat × (Nat → Int32)} {m : Mm} {S : Mm} (h : RC m S) (w : WF S) {x p v : Int32} : Y G M_gh_mark (0, 0) 0 (en_ M_gh_mark [.ref (0), .int (x), .int (p), .int (v)]) [] (LAY, m) (qm_ LAY (pc_ (sp_mark S x p) m (st_mark S x p v))) := by
  change Y _ _ _ _ [some (.ref _), some (.int _), some (.int _), some (.int _), none] _ _ _
  refine Y_iload_n 0 rfl (pc2 := 1) rfl rfl ?_
  refine Y_iconst 1 rfl (pc2 := 2) rfl (v := nI 2) (by decide) ?_
  refine Y_cS 2 rfl (pc2 := 5) rfl ok_gh_isBelow lk_gh_80 vs_gh_isBelow (as := [.int _, .int _]) (rest := []) rfl rfl (T_gh_isBelow (by omega)) ?_
  rintro _ _ ⟨rfl, rfl⟩
  change Y _ _ _ _ _ [.int _] _ _
  refine Y_if_neb 3 rfl (pc2 := 8) rfl (tgt := 11) (by decide) (fun h5 => ?_) (fun h5 => ?_)
  · obtain ⟨s, hs, rfl⟩ := h5
    refine Y_aload_n 6 rfl (pc2 := 12) rfl rfl ?_
    refine Y_getR 7 rfl (pc2 := 15) rfl fl_gh_58 ly_gh (by decide) rfl rfl (by omega) ?_
    refine Y_iload_n 8 rfl (pc2 := 16) rfl rfl ?_
    refine Y_aald 9 rfl (pc2 := 17) rfl ly_ghS (by decide) (fun _ => rfl) rfl (by omega) (by decide) (ly_ghS_at (by omega)) (by omega) ?_
    refine Y_cV 10 rfl (pc2 := 20) rfl ok_sh_isMissing lk_gh_130 vi_sh_isMissing (ly_sh (by omega)) rfl (by decide) rfl (as := []) (rest := []) rfl rfl (T_sh_isMissing h w (by omega)) ?_
    rintro _ _ ⟨rfl, rfl⟩
    change Y _ _ _ _ _ [.int _] _ _
    refine Y_if_eqb 11 rfl (pc2 := 23) rfl (tgt := 26) (by decide) (fun h20 => ?_) (fun h20 => ?_)
    · have hpl := (plc_is w hs h20).2
      refine Y_iload_n 14 rfl (pc2 := 27) rfl rfl ?_
      refine Y_aload_n 15 rfl (pc2 := 28) rfl rfl ?_
      refine Y_getR 16 rfl (pc2 := 31) rfl fl_gh_58 ly_gh (by decide) rfl rfl (by omega) ?_
      refine Y_iload_n 17 rfl (pc2 := 32) rfl rfl ?_
      refine Y_aald 18 rfl (pc2 := 33) rfl ly_ghS (by decide) (fun _ => rfl) rfl (by omega) (by decide) (ly_ghS_at (by omega)) (by omega) ?_
      refine Y_getI 19 rfl (pc2 := 36) rfl fl_gh_135 (ly_sh (by omega)) (by decide) rfl ?_
      refine Y_top ((h.sp s hs).trans (plc_is w hs h20).1) ?_
      refine Y_cS 20 rfl (pc2 := 39) rfl ok_gh_isBelow lk_gh_80 vs_gh_isBelow (as := [.int _, .int _]) (rest := []) rfl rfl (T_gh_isBelow (by omega)) ?_
      rintro _ _ ⟨rfl, rfl⟩
      change Y _ _ _ _ _ [.int _] _ _
      refine Y_if_neb 21 rfl (pc2 := 42) rfl (tgt := 45) (by decide) (fun h39 => ?_) (fun h39 => ?_)
      · obtain ⟨i, hi, rfl⟩ := h39
        refine Y_aload_n 24 rfl (pc2 := 46) rfl rfl ?_
        refine Y_getR 25 rfl (pc2 := 49) rfl fl_gh_58 ly_gh (by decide) rfl rfl (by omega) ?_
        refine Y_iload_n 26 rfl (pc2 := 50) rfl rfl ?_
        refine Y_aald 27 rfl (pc2 := 51) rfl ly_ghS (by decide) (fun _ => rfl) rfl (by omega) (by decide) (ly_ghS_at (by omega)) (by omega) ?_
        refine Y_getR 28 rfl (pc2 := 54) rfl fl_gh_245 (ly_sh (by omega)) (by decide) rfl rfl (by omega) ?_
        refine Y_iload_n 29 rfl (pc2 := 55) rfl rfl ?_
        refine Y_bald 30 rfl (pc2 := 56) rfl (ly_shB (by omega)) rfl (by omega) (by decide) ?_
        refine Y_top (h.sb s i hs hi) ?_
        refine Y_istore 31 rfl (pc2 := 58) rfl (Nat.le_of_ble_eq_true rfl) (ls2 := [some (.ref _), some (.int _), some (.int _), some (.int _), some (.int _)]) rfl ?_
        refine Y_aload_n 32 rfl (pc2 := 59) rfl rfl ?_
        refine Y_getR 33 rfl (pc2 := 62) rfl fl_gh_58 ly_gh (by decide) rfl rfl (by omega) ?_
        refine Y_iload_n 34 rfl (pc2 := 63) rfl rfl ?_
        refine Y_aald 35 rfl (pc2 := 64) rfl ly_ghS (by decide) (fun _ => rfl) rfl (by omega) (by decide) (ly_ghS_at (by omega)) (by omega) ?_
        refine Y_getR 36 rfl (pc2 := 67) rfl fl_gh_245 (ly_sh (by omega)) (by decide) rfl rfl (by omega) ?_
        refine Y_iload_n 37 rfl (pc2 := 68) rfl rfl ?_
        refine Y_iload_n 38 rfl (pc2 := 69) rfl rfl ?_
        refine Y_i2b 39 rfl (pc2 := 70) rfl rfl ?_
        refine Y_bast 40 rfl (pc2 := 71) rfl (ly_shB (by omega)) rfl (by omega) (by decide) (pk_vb _) ?_
        refine Y_iload 41 rfl (pc2 := 73) rfl rfl ?_
        refine Y_iret 42 rfl rfl rfl ⟨rfl, ?_⟩
        exact ⟨by unfold sp_mark; rw [cI_t ⟨s, hs, rfl⟩, nv_nI (k := s) (by omega), cI_f h20, cI_t ⟨i, hi, rfl⟩, nv_nI (k := i) (by omega)], by unfold st_mark; rw [cI_t ⟨⟨s, hs, rfl⟩, by rw [nv_nI (by omega)]; exact h20, by rw [nv_nI (by omega)]; exact ⟨i, hi, rfl⟩⟩, nv_nI (k := s) (by omega), nv_nI (k := i) (by omega)]; exact RC_mark h w hs (by omega), fun a ha => funext fun q => uw_ne (by omega)⟩
      · refine Y_ldc 22 rfl (pc2 := 44) rfl kc_gh_141 ?_
        refine Y_iret 23 rfl rfl rfl ⟨rfl, ?_⟩
        exact pc_bad h (by unfold sp_mark; rw [cI_t ⟨s, hs, rfl⟩, nv_nI (by omega), cI_f h20, cI_f h39]; rfl) (by unfold st_mark; rw [cI_f (fun e => h39 (by have q := e.2.2; rw [nv_nI (by omega)] at q; exact q))])
    · refine Y_ldc 12 rfl (pc2 := 25) rfl kc_gh_134 ?_
      refine Y_iret 13 rfl rfl rfl ⟨rfl, ?_⟩
      exact pc_bad h (by unfold sp_mark; rw [cI_t ⟨s, hs, rfl⟩, nv_nI (by omega), cI_t h20]; rfl) (by unfold st_mark; rw [cI_f (fun e => e.2.1 (by rw [nv_nI (by omega)]; exact h20))])
  · refine Y_ldc 4 rfl (pc2 := 10) rfl kc_gh_75 ?_
    refine Y_iret 5 rfl rfl rfl ⟨rfl, ?_⟩
    exact pc_bad h (by unfold sp_mark; rw [cI_f h5]; rfl) (by unfold st_mark; rw [cI_f (fun e => h5 e.1)])

def hol (N : Nat) (p n : Int32) : Prop := ∃ a b, p = nI a ∧ n = nI b ∧ a + b ≤ N
set_option maxHeartbeats 400000 in
theorem hol_t {N : Nat} {p n : Int32} (hN : N ≤ 16) (h1 : ¬ p < 0) (h2 : ¬ n < 0) (h3 : ¬ nI N < p) (h4 : ¬ nI N - p < n) : hol N p n := by
  obtain ⟨a, ha, rfl⟩ := nI_of h1
  obtain ⟨b, hb, rfl⟩ := nI_of h2
  have h5 := mt (nI_ltI (by omega) ha).mpr h3
  rw [nI_sub (by omega)] at h4
  have h6 := mt (nI_ltI (by omega) hb).mpr h4
  exact ⟨a, b, rfl, rfl, by omega⟩
set_option maxHeartbeats 400000 in
theorem hol_f {N : Nat} {p n : Int32} (hN : N ≤ 16) (h : hol N p n) : ¬ p < 0 ∧ ¬ n < 0 ∧ ¬ nI N < p ∧ ¬ nI N - p < n := by
  obtain ⟨a, b, rfl, rfl, hab⟩ := h
  refine ⟨nI_pos (by omega), nI_pos (by omega), fun e => ?_, fun e => ?_⟩
  · have := (nI_ltI (by omega) (by omega)).mp e; omega
  · rw [nI_sub (by omega)] at e
    have := (nI_ltI (by omega) (by omega)).mp e; omega

set_option maxHeartbeats 400000 in
theorem T_sh_holds {G : Nat × (Nat → Int32)} {m : Mm} {S : Mm} (h : RC m S) (w : WF S) {s : Nat} (hs : s < 2) (hq : ¬ S 165 s = -1) {p n : Int32} : Y G M_sh_holds (0, 0) 0 (en_ M_sh_holds [.ref (149 + 2 * s), .int (p), .int (n)]) [] (LAY, m) (qm_ LAY (pu_ (bI (hol (plc S s) p n)) m)) := by
  change Y _ _ _ _ [some (.ref _), some (.int _), some (.int _)] _ _ _
  have hpl := (plc_is w hs hq).2
  refine Y_iload_n 0 rfl (pc2 := 1) rfl rfl ?_
  refine Y_if_lt 1 rfl (pc2 := 4) rfl (tgt := 30) (by decide) (fun h1 => ?_) (fun h1 => ?_)
  · refine Y_iconst 16 rfl (pc2 := 31) rfl (v := nI 0) (by decide) ?_
    refine Y_iret 17 rfl rfl rfl ⟨rfl, ?_⟩
    first | exact pu_t (hol_t hpl h1 h5 h13 h23) | exact pu_f (fun e => (hol_f hpl e).1 h1) | exact pu_f (fun e => (hol_f hpl e).2.1 h5) | exact pu_f (fun e => (hol_f hpl e).2.2.1 h13) | exact pu_f (fun e => (hol_f hpl e).2.2.2 h23)
  · refine Y_iload_n 2 rfl (pc2 := 5) rfl rfl ?_
    refine Y_if_lt 3 rfl (pc2 := 8) rfl (tgt := 30) (by decide) (fun h5 => ?_) (fun h5 => ?_)
    · refine Y_iconst 16 rfl (pc2 := 31) rfl (v := nI 0) (by decide) ?_
      refine Y_iret 17 rfl rfl rfl ⟨rfl, ?_⟩
      first | exact pu_t (hol_t hpl h1 h5 h13 h23) | exact pu_f (fun e => (hol_f hpl e).1 h1) | exact pu_f (fun e => (hol_f hpl e).2.1 h5) | exact pu_f (fun e => (hol_f hpl e).2.2.1 h13) | exact pu_f (fun e => (hol_f hpl e).2.2.2 h23)
    · refine Y_iload_n 4 rfl (pc2 := 9) rfl rfl ?_
      refine Y_aload_n 5 rfl (pc2 := 10) rfl rfl ?_
      refine Y_getI 6 rfl (pc2 := 13) rfl fl_sh_15 (ly_sh (by omega)) (by decide) rfl ?_
      refine Y_top ((h.sp s hs).trans (plc_is w hs hq).1) ?_
      refine Y_icmp_gt 7 rfl (pc2 := 16) rfl (tgt := 30) (by decide) (fun h13 => ?_) (fun h13 => ?_)
      · refine Y_iconst 16 rfl (pc2 := 31) rfl (v := nI 0) (by decide) ?_
        refine Y_iret 17 rfl rfl rfl ⟨rfl, ?_⟩
        first | exact pu_t (hol_t hpl h1 h5 h13 h23) | exact pu_f (fun e => (hol_f hpl e).1 h1) | exact pu_f (fun e => (hol_f hpl e).2.1 h5) | exact pu_f (fun e => (hol_f hpl e).2.2.1 h13) | exact pu_f (fun e => (hol_f hpl e).2.2.2 h23)
      · refine Y_iload_n 8 rfl (pc2 := 17) rfl rfl ?_
        refine Y_aload_n 9 rfl (pc2 := 18) rfl rfl ?_
        refine Y_getI 10 rfl (pc2 := 21) rfl fl_sh_15 (ly_sh (by omega)) (by decide) rfl ?_
        refine Y_top ((h.sp s hs).trans (plc_is w hs hq).1) ?_
        refine Y_iload_n 11 rfl (pc2 := 22) rfl rfl ?_
        refine Y_isub 12 rfl (pc2 := 23) rfl ?_
        refine Y_icmp_gt 13 rfl (pc2 := 26) rfl (tgt := 30) (by decide) (fun h23 => ?_) (fun h23 => ?_)
        · refine Y_iconst 16 rfl (pc2 := 31) rfl (v := nI 0) (by decide) ?_
          refine Y_iret 17 rfl rfl rfl ⟨rfl, ?_⟩
          first | exact pu_t (hol_t hpl h1 h5 h13 h23) | exact pu_f (fun e => (hol_f hpl e).1 h1) | exact pu_f (fun e => (hol_f hpl e).2.1 h5) | exact pu_f (fun e => (hol_f hpl e).2.2.1 h13) | exact pu_f (fun e => (hol_f hpl e).2.2.2 h23)
        · refine Y_iconst 14 rfl (pc2 := 27) rfl (v := nI 1) (by decide) ?_
          refine Y_goto 15 rfl (pc2 := 31) (by decide) ?_
          refine Y_iret 17 rfl rfl rfl ⟨rfl, ?_⟩
          first | exact pu_t (hol_t hpl h1 h5 h13 h23) | exact pu_f (fun e => (hol_f hpl e).1 h1) | exact pu_f (fun e => (hol_f hpl e).2.1 h5) | exact pu_f (fun e => (hol_f hpl e).2.2.1 h13) | exact pu_f (fun e => (hol_f hpl e).2.2.2 h23)

def coC (S : Mm) (x p y q n : Int32) : Prop := (iR x 2 ∧ iR y 2) ∧ (¬ S 165 (nv x) = -1 ∧ ¬ S 165 (nv y) = -1) ∧ hol (plc S (nv x)) p n ∧ hol (plc S (nv y)) q n
noncomputable def sp_copy (S : Mm) (x p y q n : Int32) : Int32 := cI (iR x 2 ∧ iR y 2) (cI (¬ S 165 (nv x) = -1 ∧ ¬ S 165 (nv y) = -1) (cI (hol (plc S (nv x)) p n ∧ hol (plc S (nv y)) q n) n INDEX_) NOTHING_) BAD_
def cprow (row : Nat → Int32) (u v n : Nat) : Nat → Int32 := fun k => if v ≤ k ∧ k < v + n then row (u + (k - v)) else row k
noncomputable def st_copy (S : Mm) (x p y q n : Int32) : Mm := cI (coC S x p y q n) (ur_ S 166 (cprow (S 166) (16 * nv x + nv p) (16 * nv y + nv q) (nv n))) S

set_option maxHeartbeats 400000 in
theorem RC_copy {m S : Mm} (h : RC m S) (w : WF S) {x y p q n : Nat} (hx : x < 2) (hy : y < 2) (hp : p + n ≤ plc S x) (hq : q + n ≤ plc S y) (hpx : plc S x ≤ 16) (hpy : plc S y ≤ 16) : RC (ur_ m (150 + 2 * y) (va_cpy (m (150 + 2 * x)) (m (150 + 2 * y)) p q n)) (ur_ S 166 (cprow (S 166) (16 * x + p) (16 * y + q) n)) := by
  refine ⟨fun c hc => ?_, fun c b hc hb => ?_, fun c b hc hb => ?_, fun c b hc hb => ?_, fun c b hc hb => ?_, fun l hl => ?_, fun l f g s hl hf hg hs => ?_, fun l f s hl hf hs => ?_, fun l k hl hk => ?_, ?_, fun p hp => ?_, fun p hp => ?_, fun p hp => ?_, fun r hr => ?_, ?_, ?_, fun i hi => ?_, fun s hs => ?_, fun s i hs hi => ?_⟩
  · rw [ur_ne (by omega)]; exact h.b c hc
  · rw [ur_ne (by omega)]; exact h.n c b hc hb
  · rw [ur_ne (by omega)]; exact h.g c b hc hb
  · rw [ur_ne (by omega)]; exact h.t c b hc hb
  · rw [ur_ne (by omega)]; exact h.u c b hc hb
  · rw [ur_ne (by omega)]; exact h.l l hl
  · rw [ur_ne (by omega)]; exact h.r l f g s hl hf hg hs
  · rw [ur_ne (by omega)]; exact h.m l f s hl hf hs
  · rw [ur_ne (by omega)]; exact h.us l k hl hk
  · rw [ur_ne (by omega)]; exact h.p 
  · rw [ur_ne (by omega)]; exact h.c p hp
  · rw [ur_ne (by omega)]; exact h.pt p hp
  · rw [ur_ne (by omega)]; exact h.pl p hp
  · rw [ur_ne (by omega)]; exact h.sg r hr
  · rw [ur_ne (by omega)]; exact h.sn 
  · rw [ur_ne (by omega)]; exact h.tp 
  · rw [ur_ne (by omega)]; exact h.tv i hi
  · rw [ur_ne (by omega)]; exact h.sp s hs
  · have hi3 : i < plc S s := hi
    have hps : plc S s ≤ 16 := by
      by_cases e : S 165 s = -1
      · rw [plc_no e]; omega
      · exact (plc_is w hs e).2
    show _ = (if 16 * y + q ≤ 16 * s + i ∧ 16 * s + i < 16 * y + q + n then S 166 (16 * x + p + (16 * s + i - (16 * y + q))) else S 166 (16 * s + i))
    by_cases e : s = y
    · subst e
      rw [ur_same]
      show (if q ≤ i ∧ i < q + n then m (150 + 2 * x) (p + (i - q)) else m (150 + 2 * s) i) = _
      by_cases c : q ≤ i ∧ i < q + n
      · rw [if_pos c, if_pos (by omega), h.sb x _ hx (by omega)]
        congr 1; omega
      · rw [if_neg c, if_neg (by omega)]; exact h.sb s i hs hi3
    · rw [ur_ne (by omega), if_neg (by omega)]; exact h.sb s i hs hi3

set_option maxHeartbeats 400000 in
theorem WF_copy {S : Mm} (w : WF S) {u v n : Nat} (hu : u + n ≤ 32) : WF (ur_ S 166 (cprow (S 166) u v n)) := by
  refine ⟨fun c hc => ?_, fun i hi => ?_, fun i hi => ?_, fun i hi => ?_, fun i hi => ?_, fun l k hl hk => ?_, ?_, fun p hp => ?_, fun p hp => ?_, fun p hp => ?_, fun p hp => ?_, fun r hr => ?_, ?_, fun i hi => ?_, fun s hs => ?_, fun i hi => ?_, ?_⟩
  · exact w.b c hc
  · exact w.n i hi
  · exact w.g i hi
  · exact w.s i hi
  · exact w.m i hi
  · exact w.u l k hl hk
  · exact w.p 
  · exact w.c p hp
  · exact w.t p hp
  · exact w.t1 p hp
  · exact w.l p hp
  · exact w.r r hr
  · exact w.tp 
  · exact w.tv i hi
  · exact w.pl s hs
  · show (cprow (S 166) u v n i).toInt8.toInt32 = cprow (S 166) u v n i
    unfold cprow
    split
    · exact w.k _ (by omega)
    · exact w.k i hi
  · exact w.sg 

set_option maxHeartbeats 400000 in
theorem T_gh_copy {G : Nat × (Nat → Int32)} {m : Mm} {S : Mm} (h : RC m S) (w : WF S) {x0 p y0 q n : Int32} : Y G M_gh_copy (0, 0) 0 (en_ M_gh_copy [.ref (0), .int (x0), .int (p), .int (y0), .int (q), .int (n)]) [] (LAY, m) (qm_ LAY (pc_ (sp_copy S x0 p y0 q n) m (st_copy S x0 p y0 q n))) := by
  change Y _ _ _ _ [some (.ref _), some (.int _), some (.int _), some (.int _), some (.int _), some (.int _)] _ _ _
  refine Y_iload_n 0 rfl (pc2 := 1) rfl rfl ?_
  refine Y_iconst 1 rfl (pc2 := 2) rfl (v := nI 2) (by decide) ?_
  refine Y_cS 2 rfl (pc2 := 5) rfl ok_gh_isBelow lk_gh_80 vs_gh_isBelow (as := [.int _, .int _]) (rest := []) rfl rfl (T_gh_isBelow (by omega)) ?_
  rintro _ _ ⟨rfl, rfl⟩
  change Y _ _ _ _ _ [.int _] _ _
  refine Y_if_eqb 3 rfl (pc2 := 8) rfl (tgt := 16) (by decide) (fun h5 => ?_) (fun h5 => ?_)
  · refine Y_ldc 8 rfl (pc2 := 18) rfl kc_gh_75 ?_
    refine Y_iret 9 rfl rfl rfl ⟨rfl, ?_⟩
    first | exact pc_bad h (by unfold sp_copy; rw [cI_f (fun e => h5 e.1)]; rfl) (by unfold st_copy; rw [cI_f (fun e => h5 e.1.1)]) | exact pc_bad h (by unfold sp_copy; rw [cI_f (fun e => h13 e.2)]; rfl) (by unfold st_copy; rw [cI_f (fun e => h13 e.1.2)])
  · obtain ⟨x, hx, rfl⟩ := h5
    refine Y_iload_n 4 rfl (pc2 := 9) rfl rfl ?_
    refine Y_iconst 5 rfl (pc2 := 10) rfl (v := nI 2) (by decide) ?_
    refine Y_cS 6 rfl (pc2 := 13) rfl ok_gh_isBelow lk_gh_80 vs_gh_isBelow (as := [.int _, .int _]) (rest := []) rfl rfl (T_gh_isBelow (by omega)) ?_
    rintro _ _ ⟨rfl, rfl⟩
    change Y _ _ _ _ _ [.int _] _ _
    refine Y_if_neb 7 rfl (pc2 := 16) rfl (tgt := 19) (by decide) (fun h13 => ?_) (fun h13 => ?_)
    · obtain ⟨y, hy, rfl⟩ := h13
      refine Y_aload_n 10 rfl (pc2 := 20) rfl rfl ?_
      refine Y_getR 11 rfl (pc2 := 23) rfl fl_gh_58 ly_gh (by decide) rfl rfl (by omega) ?_
      refine Y_iload_n 12 rfl (pc2 := 24) rfl rfl ?_
      refine Y_aald 13 rfl (pc2 := 25) rfl ly_ghS (by decide) (fun _ => rfl) rfl (by omega) (by decide) (ly_ghS_at (by omega)) (by omega) ?_
      refine Y_cV 14 rfl (pc2 := 28) rfl ok_sh_isMissing lk_gh_130 vi_sh_isMissing (ly_sh (by omega)) rfl (by decide) rfl (as := []) (rest := []) rfl rfl (T_sh_isMissing h w (by omega)) ?_
      rintro _ _ ⟨rfl, rfl⟩
      change Y _ _ _ _ _ [.int _] _ _
      refine Y_if_neb 15 rfl (pc2 := 31) rfl (tgt := 43) (by decide) (fun h28 => ?_) (fun h28 => ?_)
      · refine Y_ldc 22 rfl (pc2 := 45) rfl kc_gh_134 ?_
        refine Y_iret 23 rfl rfl rfl ⟨rfl, ?_⟩
        first
          | exact pc_bad h (by unfold sp_copy; rw [cI_t ⟨⟨x, hx, rfl⟩, ⟨y, hy, rfl⟩⟩, cI_f (fun e => e.1 (by rw [nv_nI (by omega)]; exact h28))]; rfl) (by unfold st_copy; rw [cI_f (fun e => e.2.1.1 (by rw [nv_nI (by omega)]; exact h28))])
          | exact pc_bad h (by unfold sp_copy; rw [cI_t ⟨⟨x, hx, rfl⟩, ⟨y, hy, rfl⟩⟩, cI_f (fun e => e.2 (by rw [nv_nI (by omega)]; exact h40))]; rfl) (by unfold st_copy; rw [cI_f (fun e => e.2.1.2 (by rw [nv_nI (by omega)]; exact h40))])
      · refine Y_aload_n 16 rfl (pc2 := 32) rfl rfl ?_
        refine Y_getR 17 rfl (pc2 := 35) rfl fl_gh_58 ly_gh (by decide) rfl rfl (by omega) ?_
        refine Y_iload_n 18 rfl (pc2 := 36) rfl rfl ?_
        refine Y_aald 19 rfl (pc2 := 37) rfl ly_ghS (by decide) (fun _ => rfl) rfl (by omega) (by decide) (ly_ghS_at (by omega)) (by omega) ?_
        refine Y_cV 20 rfl (pc2 := 40) rfl ok_sh_isMissing lk_gh_130 vi_sh_isMissing (ly_sh (by omega)) rfl (by decide) rfl (as := []) (rest := []) rfl rfl (T_sh_isMissing h w (by omega)) ?_
        rintro _ _ ⟨rfl, rfl⟩
        change Y _ _ _ _ _ [.int _] _ _
        refine Y_if_eqb 21 rfl (pc2 := 43) rfl (tgt := 46) (by decide) (fun h40 => ?_) (fun h40 => ?_)
        · have hpx := (plc_is w hx h28).2
          have hpy := (plc_is w hy h40).2
          refine Y_aload_n 24 rfl (pc2 := 47) rfl rfl ?_
          refine Y_getR 25 rfl (pc2 := 50) rfl fl_gh_58 ly_gh (by decide) rfl rfl (by omega) ?_
          refine Y_iload_n 26 rfl (pc2 := 51) rfl rfl ?_
          refine Y_aald 27 rfl (pc2 := 52) rfl ly_ghS (by decide) (fun _ => rfl) rfl (by omega) (by decide) (ly_ghS_at (by omega)) (by omega) ?_
          refine Y_iload_n 28 rfl (pc2 := 53) rfl rfl ?_
          refine Y_iload 29 rfl (pc2 := 55) rfl rfl ?_
          refine Y_cV 30 rfl (pc2 := 58) rfl ok_sh_holds lk_gh_249 vi_sh_holds (ly_sh (by omega)) rfl (by decide) rfl (as := [.int _, .int _]) (rest := []) rfl rfl (T_sh_holds h w hx h28) ?_
          rintro _ _ ⟨rfl, rfl⟩
          change Y _ _ _ _ _ [.int _] _ _
          refine Y_if_eqb 31 rfl (pc2 := 61) rfl (tgt := 77) (by decide) (fun h58 => ?_) (fun h58 => ?_)
          · refine Y_ldc 40 rfl (pc2 := 79) rfl kc_gh_141 ?_
            refine Y_iret 41 rfl rfl rfl ⟨rfl, ?_⟩
            first
              | exact pc_bad h (by unfold sp_copy; rw [cI_t ⟨⟨x, hx, rfl⟩, ⟨y, hy, rfl⟩⟩, nv_nI (k := x) (by omega), nv_nI (k := y) (by omega), cI_t ⟨h28, h40⟩, cI_f (fun e => h58 e.1)]; rfl) (by unfold st_copy; rw [cI_f (fun e => h58 (by have z := e.2.2.1; rw [nv_nI (by omega)] at z; exact z))])
              | exact pc_bad h (by unfold sp_copy; rw [cI_t ⟨⟨x, hx, rfl⟩, ⟨y, hy, rfl⟩⟩, nv_nI (k := x) (by omega), nv_nI (k := y) (by omega), cI_t ⟨h28, h40⟩, cI_f (fun e => h74 e.2)]; rfl) (by unfold st_copy; rw [cI_f (fun e => h74 (by have z := e.2.2.2; rw [nv_nI (by omega)] at z; exact z))])
          · refine Y_aload_n 32 rfl (pc2 := 62) rfl rfl ?_
            refine Y_getR 33 rfl (pc2 := 65) rfl fl_gh_58 ly_gh (by decide) rfl rfl (by omega) ?_
            refine Y_iload_n 34 rfl (pc2 := 66) rfl rfl ?_
            refine Y_aald 35 rfl (pc2 := 67) rfl ly_ghS (by decide) (fun _ => rfl) rfl (by omega) (by decide) (ly_ghS_at (by omega)) (by omega) ?_
            refine Y_iload 36 rfl (pc2 := 69) rfl rfl ?_
            refine Y_iload 37 rfl (pc2 := 71) rfl rfl ?_
            refine Y_cV 38 rfl (pc2 := 74) rfl ok_sh_holds lk_gh_249 vi_sh_holds (ly_sh (by omega)) rfl (by decide) rfl (as := [.int _, .int _]) (rest := []) rfl rfl (T_sh_holds h w hy h40) ?_
            rintro _ _ ⟨rfl, rfl⟩
            change Y _ _ _ _ _ [.int _] _ _
            refine Y_if_neb 39 rfl (pc2 := 77) rfl (tgt := 80) (by decide) (fun h74 => ?_) (fun h74 => ?_)
            · obtain ⟨a, b, rfl, rfl, hab⟩ := h58
              obtain ⟨d, b2, rfl, hb2, hdb⟩ := h74
              have hbb : b = b2 := (nI_eq (by omega) (by omega)).mp hb2
              subst hbb
              refine Y_aload_n 42 rfl (pc2 := 81) rfl rfl ?_
              refine Y_getR 43 rfl (pc2 := 84) rfl fl_gh_58 ly_gh (by decide) rfl rfl (by omega) ?_
              refine Y_iload_n 44 rfl (pc2 := 85) rfl rfl ?_
              refine Y_aald 45 rfl (pc2 := 86) rfl ly_ghS (by decide) (fun _ => rfl) rfl (by omega) (by decide) (ly_ghS_at (by omega)) (by omega) ?_
              refine Y_getR 46 rfl (pc2 := 89) rfl fl_gh_245 (ly_sh (by omega)) (by decide) rfl rfl (by omega) ?_
              refine Y_iload_n 47 rfl (pc2 := 90) rfl rfl ?_
              refine Y_aload_n 48 rfl (pc2 := 91) rfl rfl ?_
              refine Y_getR 49 rfl (pc2 := 94) rfl fl_gh_58 ly_gh (by decide) rfl rfl (by omega) ?_
              refine Y_iload_n 50 rfl (pc2 := 95) rfl rfl ?_
              refine Y_aald 51 rfl (pc2 := 96) rfl ly_ghS (by decide) (fun _ => rfl) rfl (by omega) (by decide) (ly_ghS_at (by omega)) (by omega) ?_
              refine Y_getR 52 rfl (pc2 := 99) rfl fl_gh_245 (ly_sh (by omega)) (by decide) rfl rfl (by omega) ?_
              refine Y_iload 53 rfl (pc2 := 101) rfl rfl ?_
              refine Y_iload 54 rfl (pc2 := 103) rfl rfl ?_
              refine Y_copy_b 55 rfl (pc2 := 106) rfl lk_gh_252 jd_an jd_as jd_si (ly_shB (by omega)) (ly_shB (by omega)) rfl rfl rfl (by omega) (by omega) (by decide) (by decide) (fun q hq => by rw [h.sb x _ hx (by omega), ← w.k _ (by omega)]; exact pk_fb _) (by decide) (Nat.le_of_ble_eq_true rfl) ?_
              refine Y_iload 56 rfl (pc2 := 108) rfl rfl ?_
              refine Y_iret 57 rfl rfl rfl ⟨rfl, ?_⟩
              exact ⟨by unfold sp_copy; rw [cI_t ⟨⟨x, hx, rfl⟩, ⟨y, hy, rfl⟩⟩, nv_nI (k := x) (by omega), nv_nI (k := y) (by omega), cI_t ⟨h28, h40⟩, cI_t ⟨⟨a, b, rfl, rfl, hab⟩, ⟨d, b, rfl, rfl, hdb⟩⟩], by unfold st_copy; rw [cI_t (show coC _ _ _ _ _ _ from ⟨⟨⟨x, hx, rfl⟩, ⟨y, hy, rfl⟩⟩, ⟨by rw [nv_nI (by omega)]; exact h28, by rw [nv_nI (by omega)]; exact h40⟩, by rw [nv_nI (by omega)]; exact ⟨a, b, rfl, rfl, hab⟩, by rw [nv_nI (by omega)]; exact ⟨d, b, rfl, rfl, hdb⟩⟩), nv_nI (k := x) (by omega), nv_nI (k := y) (by omega), nv_nI (k := a) (by omega), nv_nI (k := b) (by omega), nv_nI (k := d) (by omega)]; exact RC_copy h w hx hy hab hdb hpx hpy, fun a ha => by show ur_ _ _ _ a = _; rw [ur_ne (by omega)]⟩
            · refine Y_ldc 40 rfl (pc2 := 79) rfl kc_gh_141 ?_
              refine Y_iret 41 rfl rfl rfl ⟨rfl, ?_⟩
              first
                | exact pc_bad h (by unfold sp_copy; rw [cI_t ⟨⟨x, hx, rfl⟩, ⟨y, hy, rfl⟩⟩, nv_nI (k := x) (by omega), nv_nI (k := y) (by omega), cI_t ⟨h28, h40⟩, cI_f (fun e => h58 e.1)]; rfl) (by unfold st_copy; rw [cI_f (fun e => h58 (by have z := e.2.2.1; rw [nv_nI (by omega)] at z; exact z))])
                | exact pc_bad h (by unfold sp_copy; rw [cI_t ⟨⟨x, hx, rfl⟩, ⟨y, hy, rfl⟩⟩, nv_nI (k := x) (by omega), nv_nI (k := y) (by omega), cI_t ⟨h28, h40⟩, cI_f (fun e => h74 e.2)]; rfl) (by unfold st_copy; rw [cI_f (fun e => h74 (by have z := e.2.2.2; rw [nv_nI (by omega)] at z; exact z))])
        · refine Y_ldc 22 rfl (pc2 := 45) rfl kc_gh_134 ?_
          refine Y_iret 23 rfl rfl rfl ⟨rfl, ?_⟩
          first
            | exact pc_bad h (by unfold sp_copy; rw [cI_t ⟨⟨x, hx, rfl⟩, ⟨y, hy, rfl⟩⟩, cI_f (fun e => e.1 (by rw [nv_nI (by omega)]; exact h28))]; rfl) (by unfold st_copy; rw [cI_f (fun e => e.2.1.1 (by rw [nv_nI (by omega)]; exact h28))])
            | exact pc_bad h (by unfold sp_copy; rw [cI_t ⟨⟨x, hx, rfl⟩, ⟨y, hy, rfl⟩⟩, cI_f (fun e => e.2 (by rw [nv_nI (by omega)]; exact h40))]; rfl) (by unfold st_copy; rw [cI_f (fun e => e.2.1.2 (by rw [nv_nI (by omega)]; exact h40))])
    · refine Y_ldc 8 rfl (pc2 := 18) rfl kc_gh_75 ?_
      refine Y_iret 9 rfl rfl rfl ⟨rfl, ?_⟩
      first | exact pc_bad h (by unfold sp_copy; rw [cI_f (fun e => h5 e.1)]; rfl) (by unfold st_copy; rw [cI_f (fun e => h5 e.1.1)]) | exact pc_bad h (by unfold sp_copy; rw [cI_f (fun e => h13 e.2)]; rfl) (by unfold st_copy; rw [cI_f (fun e => h13 e.1.2)])
