/-! the law: its loop, its beginning -/
set_option maxRecDepth 20000 in
set_option maxHeartbeats 1000000 in
theorem L_law {G : Nat × (Nat → Int32)} {cap : Nat × Nat} (hL : G.1 ≤ 3072) : ∀ i, i ≤ G.1 → ∀ m S, RC m S → RM m S → WF S → Y G M_la_law cap 18 [some (.ref 1000000), some (.ref 0), some (.ref 153), some (.int (nI i))] [] (LAY, m) (qm_ LAY (fun v _ => v = some (.int (nI 1)))) := by
  refine ind_ (fun i hi ih m S h hM w => ?_)
  have HN : i + 6 ≤ G.1 → ∀ m2 S2, RC m2 S2 → RM m2 S2 → WF S2 → Y G M_la_law cap 1076 [some (.ref 1000000), some (.ref 0), some (.ref 153), some (.int (nI i))] [] (LAY, m2) (qm_ LAY (fun v _ => v = some (.int (nI 1)))) := by
    intro h6 m2 S2 a b c
    refine Y_iinc 810 rfl (pc2 := 1079) rfl rfl (nI_inc _ 6) (ls2 := [some (.ref _), some (.ref _), some (.ref _), some (.int _)]) rfl ?_
    refine Y_goto 811 rfl (pc2 := 18) (by decide) ?_
    exact ih (i + 6) (by omega) (by omega) m2 S2 a b c
  refine Y_iload_n 10 rfl (pc2 := 19) rfl rfl ?_
  refine Y_aload_n 11 rfl (pc2 := 20) rfl rfl ?_
  refine Y_slen 12 rfl (pc2 := 21) rfl (z := 0) (by decide) (v := nI G.1) rfl ?_
  refine Y_bipush 13 rfl (pc2 := 23) rfl (v := nI 6) (by decide) ?_
  refine Y_isub 14 rfl (pc2 := 24) rfl ?_
  refine Y_icmp_gt 15 rfl (pc2 := 27) rfl (tgt := 1082) (by decide) (fun h24 => ?_) (fun h24 => ?_)
  · refine Y_iconst 812 rfl (pc2 := 1083) rfl (v := nI 1) (by decide) ?_
    refine Y_iret 813 rfl rfl rfl ⟨rfl, ?_⟩
    exact rfl
  · have hi6 := law_ge hL (by omega) h24
    refine Y_aload_n 16 rfl (pc2 := 28) rfl rfl ?_
    refine Y_iload_n 17 rfl (pc2 := 29) rfl rfl ?_
    refine Y_sald 18 rfl (pc2 := 30) rfl (z := 0) (by decide) rfl (by show _ < G.1; omega) (by show G.1 < _; omega) ?_
    refine Y_bipush 19 rfl (pc2 := 32) rfl (v := nI 31) (by decide) ?_
    refine Y_iand 20 rfl (pc2 := 33) rfl ?_
    refine Y_tsw 21 rfl (n := 24) (by decide) (by decide) rfl (by decide) (tgt := 1076) (by decide) (fun h33 => ?_) (fun j hj h33 => ?_)
    · exact HN hi6 m S h hM w
    · have hj2 : j = 0 ∨ j = 1 ∨ j = 2 ∨ j = 3 ∨ j = 4 ∨ j = 5 ∨ j = 6 ∨ j = 7 ∨ j = 8 ∨ j = 9 ∨ j = 10 ∨ j = 11 ∨ j = 12 ∨ j = 13 ∨ j = 14 ∨ j = 15 ∨ j = 16 ∨ j = 17 ∨ j = 18 ∨ j = 19 ∨ j = 20 ∨ j = 21 ∨ j = 22 ∨ j = 23 := by omega
      rcases hj2 with rfl | rfl | rfl | rfl | rfl | rfl | rfl | rfl | rfl | rfl | rfl | rfl | rfl | rfl | rfl | rfl | rfl | rfl | rfl | rfl | rfl | rfl | rfl | rfl
      · change Y _ _ _ 144 _ _ _ _
        exact LC_feed hL hi6 h hM w (HN hi6)
      · change Y _ _ _ 187 _ _ _ _
        exact LC_trim hL hi6 h hM w (HN hi6)
      · change Y _ _ _ 210 _ _ _ _
        exact LC_tune hL hi6 h hM w (HN hi6)
      · change Y _ _ _ 233 _ _ _ _
        exact LC_told hL hi6 h hM w (HN hi6)
      · change Y _ _ _ 276 _ _ _ _
        exact LC_isOf hL hi6 h hM w (HN hi6)
      · change Y _ _ _ 319 _ _ _ _
        exact LC_strike hL hi6 h hM w (HN hi6)
      · change Y _ _ _ 382 _ _ _ _
        exact LC_lay hL hi6 h hM w (HN hi6)
      · change Y _ _ _ 435 _ _ _ _
        exact LC_together hL hi6 h hM w (HN hi6)
      · change Y _ _ _ 488 _ _ _ _
        exact LC_wrong hL hi6 h hM w (HN hi6)
      · change Y _ _ _ 521 _ _ _ _
        exact LC_use hL hi6 h hM w (HN hi6)
      · change Y _ _ _ 564 _ _ _ _
        exact LC_part hL hi6 h hM w (HN hi6)
      · change Y _ _ _ 607 _ _ _ _
        exact LC_signal hL hi6 h hM w (HN hi6)
      · change Y _ _ _ 640 _ _ _ _
        exact LC_drop hL hi6 h hM w (HN hi6)
      · change Y _ _ _ 653 _ _ _ _
        exact LC_round hL hi6 h hM w (HN hi6)
      · change Y _ _ _ 686 _ _ _ _
        exact LC_plays hL hi6 h hM w (HN hi6)
      · change Y _ _ _ 739 _ _ _ _
        exact LC_damps hL hi6 h hM w (HN hi6)
      · change Y _ _ _ 792 _ _ _ _
        exact LC_strikes hL hi6 h hM w (HN hi6)
      · change Y _ _ _ 825 _ _ _ _
        exact LC_ticks hL hi6 h hM w (HN hi6)
      · change Y _ _ _ 838 _ _ _ _
        exact LC_leaps hL hi6 h hM w (HN hi6)
      · change Y _ _ _ 881 _ _ _ _
        exact LC_choice hL hi6 h hM w (HN hi6)
      · change Y _ _ _ 914 _ _ _ _
        exact LC_sheet hL hi6 h hM w (HN hi6)
      · change Y _ _ _ 947 _ _ _ _
        exact LC_mark hL hi6 h hM w (HN hi6)
      · change Y _ _ _ 990 _ _ _ _
        exact LC_copy hL hi6 h hM w (HN hi6)
      · change Y _ _ _ 1053 _ _ _ _
        exact LC_count hL hi6 h hM w (HN hi6)

set_option maxHeartbeats 1000000 in
theorem LAY_is : ([] ++ ZG36 0) ++ [(10, 24, [some (153 + 1), some (153 + 2), some (153 + 3), some (153 + 4), some (153 + 5), some (153 + 6), none, some (153 + 7), some (153 + 8), some (153 + 9), some (153 + 10), some (153 + 11), none, some (153 + 12), some (153 + 13), none, none, some (153 + 14), some (153 + 15), none, none, none, some (153 + 16), some (153 + 17)]), (12, 4, []), (12, 128, []), (12, 128, []), (12, 768, []), (13, 384, []), (12, 12, []), (12, 16, []), (12, 16, []), (12, 16, []), (12, 144, []), (12, 64, []), (12, 2, []), (12, 32, []), (12, 32, []), (12, 32, []), (12, 3, []), (12, 16, [])] = LAY := by decide +kernel
set_option maxRecDepth 20000 in
set_option maxHeartbeats 1000000 in
theorem T_la_law {G : Nat × (Nat → Int32)} {mm : Mm} (hL : G.1 ≤ 3072) : Y G M_la_law (171, 3545) 0 (en_ M_la_law [.ref 1000000]) [] ([], mm) (qm_ LAY (fun v _ => v = some (.int (nI 1)))) := by
  change Y _ _ _ _ [some (.ref _), none, none, none] _ _ _
  refine Y_new 0 rfl (pc2 := 3) rfl nc_la_7 (by decide) (by decide) (by decide) ?_
  refine Y_dup 1 rfl (pc2 := 4) rfl rfl ?_
  refine Y_mkc (L := []) (n := 0) (C := 152) (Sz := 1716) 2 rfl (pc2 := 7) rfl ok_gh_init lk_la_9 vn_gh_init (as := []) (rest := [.ref _]) rfl (by decide) rfl rfl lnG36 slG36 (by decide) (by decide) (K_gh_init rfl (by decide) (by funext k; simp [ur_, z_])) ?_
  intro m2 hf2 hr2
  refine Y_astore_n 3 rfl (pc2 := 8) rfl (Nat.le_of_ble_eq_true rfl) (ls2 := [some (.ref _), some (.ref _), none, none]) rfl ?_
  refine Y_znew 4 rfl (pc2 := 11) rfl nc_la_10 (zl := 153) lnG36 (by decide) (by rw [slG36]; decide) (by decide) ?_
  refine Y_dup 5 rfl (pc2 := 12) rfl rfl ?_
  refine Y_mkc (L := [] ++ ZG36 0) (n := 153) (C := 17) (Sz := 1797) 6 rfl (pc2 := 15) rfl ok_mo_init lk_la_12 vn_mo_init (as := []) (rest := [.ref _]) lnG36 (by decide) rfl rfl rfl (by simp [sl_]) (by decide) (by rw [sl_app, slG36]; decide) (K_mo_init lnG36 (by decide) (by funext k; simp [ur_])) ?_
  intro m3 hf3 hr3
  refine Y_sg (σ2 := (LAY, m3)) (by rw [← LAY_is]) ?_
  refine Y_astore_n 7 rfl (pc2 := 16) rfl (Nat.le_of_ble_eq_true rfl) (ls2 := [some (.ref _), some (.ref _), some (.ref _), none]) rfl ?_
  refine Y_iconst 8 rfl (pc2 := 17) rfl (v := nI 0) (by decide) ?_
  refine Y_istore_n 9 rfl (pc2 := 18) rfl (Nat.le_of_ble_eq_true rfl) (ls2 := [some (.ref _), some (.ref _), some (.ref _), some (.int _)]) rfl ?_
  have hl : RG18.length = 153 := by decide +kernel
  have hr0 : rws m3 0 RG18 := rws_fr _ _ hr2 (fun b _ hb => by rw [hl] at hb; exact (hf3 b (by omega)).trans (ur_ne (by omega)))
  have hr1 : rws m3 153 RMd := hr3
  exact L_law hL 0 (Nat.zero_le _) m3 m3 (RC_0 hr0 hr1) ⟨fun _ _ _ => rfl, rfl, rfl⟩ (WF_0 hr1)
