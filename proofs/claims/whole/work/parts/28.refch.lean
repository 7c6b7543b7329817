/-! the reference: what its calls change -/
set_option maxHeartbeats 400000 in
theorem T_mo_strike {G : Nat × (Nat → Int32)} {m : Mm} {S : Mm} (h : RM m S) (w : WF S) {x y z u v : Int32} : Y G M_mo_strike (0, 0) 0 (en_ M_mo_strike [.ref (153), .int (x), .int (y), .int (z), .int (u), .int (v)]) [] (LAY, m) (qm_ LAY (pm_ (sp_strike S x y z u v) m (st_strike S x y z u v))) := by
  change Y _ _ _ _ [some (.ref _), some (.int _), some (.int _), some (.int _), some (.int _), some (.int _), none, none, none] _ _ _
  refine Y_iload_n 0 rfl (pc2 := 1) rfl rfl ?_
  refine Y_iload_n 1 rfl (pc2 := 2) rfl rfl ?_
  refine Y_cS 2 rfl (pc2 := 5) rfl ok_mo_isFigure lk_mo_124 vs_mo_isFigure (as := [.int _, .int _]) (rest := []) rfl rfl T_mo_isFigure ?_
  rintro _ _ ⟨rfl, rfl⟩
  change Y _ _ _ _ _ [.int _] _ _
  refine Y_if_eqb 3 rfl (pc2 := 8) rfl (tgt := 36) (by decide) (fun h5 => ?_) (fun h5 => ?_)
  · refine Y_iconst 19 rfl (pc2 := 37) rfl (v := nI 0) (by decide) ?_
    refine Y_istore 20 rfl (pc2 := 39) rfl (Nat.le_of_ble_eq_true rfl) (ls2 := [some (.ref _), some (.int _), some (.int _), some (.int _), some (.int _), some (.int _), some (.int _), none, none]) rfl ?_
    refine Y_iload 21 rfl (pc2 := 41) rfl rfl ?_
    refine Y_if_eqn 22 rfl (pc2 := 44) rfl (tgt := 62) (by decide) (by decide) (fun _ => ?_) (fun hd => absurd hd (by decide))
    refine Y_ldc 31 rfl (pc2 := 64) rfl kc_mo_79 ?_
    refine Y_iret 32 rfl rfl rfl ⟨rfl, ?_⟩
    dsimp only
    first | exact pm_bad h (by unfold sp_strike; rw [cI_f (fun e => h5 e.1.1)]; rfl) (by unfold st_strike; rw [cI_f (fun e => h5 e.1.1)]) | exact pm_bad h (by unfold sp_strike; rw [cI_f (fun e => h14 e.2.1)]; rfl) (by unfold st_strike; rw [cI_f (fun e => h14 e.2.1)]) | exact pm_bad h (by unfold sp_strike; rw [cI_f (fun e => h29 (by have q := e.1.2; rw [nv_nI (by omega)] at q; exact q))]; rfl) (by unfold st_strike; rw [cI_f (fun e => h29 (by have q := e.1.2; rw [nv_nI (by omega)] at q; exact q))]) | exact pm_bad h (by unfold sp_strike; rw [cI_f (fun e => e.2.2.elim h48 h59)]; rfl) (by unfold st_strike; rw [cI_f (fun e => e.2.2.elim h48 h59)])
  · obtain ⟨⟨l, hl, rfl⟩, ⟨f, hf, rfl⟩⟩ := h5
    have hz := sz_16 hl
    refine Y_iload_n 4 rfl (pc2 := 9) rfl rfl ?_
    refine Y_iconst 5 rfl (pc2 := 10) rfl (v := nI 0) (by decide) ?_
    refine Y_iconst 6 rfl (pc2 := 11) rfl (v := nI 1) (by decide) ?_
    refine Y_cS 7 rfl (pc2 := 14) rfl ok_mo_isIn lk_mo_62 vs_mo_isIn (as := [.int _, .int _, .int _]) (rest := []) rfl rfl (T_mo_isIn0 (by omega)) ?_
    rintro _ _ ⟨rfl, rfl⟩
    change Y _ _ _ _ _ [.int _] _ _
    refine Y_if_eqb 8 rfl (pc2 := 17) rfl (tgt := 36) (by decide) (fun h14 => ?_) (fun h14 => ?_)
    · refine Y_iconst 19 rfl (pc2 := 37) rfl (v := nI 0) (by decide) ?_
      refine Y_istore 20 rfl (pc2 := 39) rfl (Nat.le_of_ble_eq_true rfl) (ls2 := [some (.ref _), some (.int _), some (.int _), some (.int _), some (.int _), some (.int _), some (.int _), none, none]) rfl ?_
      refine Y_iload 21 rfl (pc2 := 41) rfl rfl ?_
      refine Y_if_eqn 22 rfl (pc2 := 44) rfl (tgt := 62) (by decide) (by decide) (fun _ => ?_) (fun hd => absurd hd (by decide))
      refine Y_ldc 31 rfl (pc2 := 64) rfl kc_mo_79 ?_
      refine Y_iret 32 rfl rfl rfl ⟨rfl, ?_⟩
      dsimp only
      first | exact pm_bad h (by unfold sp_strike; rw [cI_f (fun e => h5 e.1.1)]; rfl) (by unfold st_strike; rw [cI_f (fun e => h5 e.1.1)]) | exact pm_bad h (by unfold sp_strike; rw [cI_f (fun e => h14 e.2.1)]; rfl) (by unfold st_strike; rw [cI_f (fun e => h14 e.2.1)]) | exact pm_bad h (by unfold sp_strike; rw [cI_f (fun e => h29 (by have q := e.1.2; rw [nv_nI (by omega)] at q; exact q))]; rfl) (by unfold st_strike; rw [cI_f (fun e => h29 (by have q := e.1.2; rw [nv_nI (by omega)] at q; exact q))]) | exact pm_bad h (by unfold sp_strike; rw [cI_f (fun e => e.2.2.elim h48 h59)]; rfl) (by unfold st_strike; rw [cI_f (fun e => e.2.2.elim h48 h59)])
    · refine Y_iload 9 rfl (pc2 := 19) rfl rfl ?_
      refine Y_iconst 10 rfl (pc2 := 20) rfl (v := nI 0) (by decide) ?_
      refine Y_iload_n 11 rfl (pc2 := 21) rfl rfl ?_
      refine Y_cS 12 rfl (pc2 := 24) rfl ok_mo_stepsOf lk_mo_127 vs_mo_stepsOf (as := [.int _]) (rest := [.int _, .int _]) rfl rfl (T_mo_stepsOf (by omega)) ?_
      rintro _ _ ⟨rfl, rfl⟩
      change Y _ _ _ _ _ [.int _, .int _, .int _] _ _
      refine Y_iconst 13 rfl (pc2 := 25) rfl (v := nI 1) (by decide) ?_
      refine Y_isub 14 rfl (pc2 := 26) rfl ?_
      refine Y_cS 15 rfl (pc2 := 29) rfl ok_mo_isIn lk_mo_62 vs_mo_isIn (as := [.int _, .int _, .int _]) (rest := []) rfl rfl (T_mo_isInm (by omega)) ?_
      rintro _ _ ⟨rfl, rfl⟩
      change Y _ _ _ _ _ [.int _] _ _
      refine Y_if_eqb 16 rfl (pc2 := 32) rfl (tgt := 36) (by decide) (fun h29 => ?_) (fun h29 => ?_)
      · refine Y_iconst 19 rfl (pc2 := 37) rfl (v := nI 0) (by decide) ?_
        refine Y_istore 20 rfl (pc2 := 39) rfl (Nat.le_of_ble_eq_true rfl) (ls2 := [some (.ref _), some (.int _), some (.int _), some (.int _), some (.int _), some (.int _), some (.int _), none, none]) rfl ?_
        refine Y_iload 21 rfl (pc2 := 41) rfl rfl ?_
        refine Y_if_eqn 22 rfl (pc2 := 44) rfl (tgt := 62) (by decide) (by decide) (fun _ => ?_) (fun hd => absurd hd (by decide))
        refine Y_ldc 31 rfl (pc2 := 64) rfl kc_mo_79 ?_
        refine Y_iret 32 rfl rfl rfl ⟨rfl, ?_⟩
        dsimp only
        first | exact pm_bad h (by unfold sp_strike; rw [cI_f (fun e => h5 e.1.1)]; rfl) (by unfold st_strike; rw [cI_f (fun e => h5 e.1.1)]) | exact pm_bad h (by unfold sp_strike; rw [cI_f (fun e => h14 e.2.1)]; rfl) (by unfold st_strike; rw [cI_f (fun e => h14 e.2.1)]) | exact pm_bad h (by unfold sp_strike; rw [cI_f (fun e => h29 (by have q := e.1.2; rw [nv_nI (by omega)] at q; exact q))]; rfl) (by unfold st_strike; rw [cI_f (fun e => h29 (by have q := e.1.2; rw [nv_nI (by omega)] at q; exact q))]) | exact pm_bad h (by unfold sp_strike; rw [cI_f (fun e => e.2.2.elim h48 h59)]; rfl) (by unfold st_strike; rw [cI_f (fun e => e.2.2.elim h48 h59)])
      · obtain ⟨g, hg, rfl⟩ := h14
        obtain ⟨s, hs, rfl⟩ := h29
        refine Y_iconst 17 rfl (pc2 := 33) rfl (v := nI 1) (by decide) ?_
        refine Y_goto 18 rfl (pc2 := 37) (by decide) ?_
        refine Y_istore 20 rfl (pc2 := 39) rfl (Nat.le_of_ble_eq_true rfl) (ls2 := [some (.ref _), some (.int _), some (.int _), some (.int _), some (.int _), some (.int _), some (.int _), none, none]) rfl ?_
        refine Y_iload 21 rfl (pc2 := 41) rfl rfl ?_
        refine Y_if_eqn 22 rfl (pc2 := 44) rfl (tgt := 62) (by decide) (by decide) (fun hd => absurd hd (by decide)) (fun _ => ?_)
        refine Y_iload 23 rfl (pc2 := 46) rfl rfl ?_
        refine Y_ldc 24 rfl (pc2 := 48) rfl kc_mo_112 ?_
        refine Y_icmp_eq 25 rfl (pc2 := 51) rfl (tgt := 65) (by decide) (fun h48 => ?_) (fun h48 => ?_)
        · have hO : shO v := by first | exact Or.inl h48 | exact Or.inr h59
          refine Y_iload_n 33 rfl (pc2 := 66) rfl rfl ?_
          refine Y_iload_n 34 rfl (pc2 := 67) rfl rfl ?_
          refine Y_iload_n 35 rfl (pc2 := 68) rfl rfl ?_
          refine Y_iload 36 rfl (pc2 := 70) rfl rfl ?_
          refine Y_cS 37 rfl (pc2 := 73) rfl ok_mo_placeOf lk_mo_130 vs_mo_placeOf (as := [.int _, .int _, .int _, .int _]) (rest := []) rfl rfl T_mo_placeOf ?_
          rintro _ _ ⟨rfl, rfl⟩
          change Y _ _ _ _ _ [.int _] _ _
          refine Y_istore 38 rfl (pc2 := 75) rfl (Nat.le_of_ble_eq_true rfl) (ls2 := [some (.ref _), some (.int _), some (.int _), some (.int _), some (.int _), some (.int _), some (.int _), some (.int _), none]) rfl ?_
          refine Y_aload_n 39 rfl (pc2 := 76) rfl rfl ?_
          refine Y_getR 40 rfl (pc2 := 79) rfl fl_mo_19 ly_mo (by decide) rfl rfl (by omega) ?_
          refine Y_iload 41 rfl (pc2 := 81) rfl rfl ?_
          refine Y_iald 42 rfl (pc2 := 82) rfl ly_mo_shifts rfl (by omega) (by decide) ?_
          refine Y_top (h.e (by decide) (by decide)) ?_
          refine Y_istore 43 rfl (pc2 := 84) rfl (Nat.le_of_ble_eq_true rfl) (ls2 := [some (.ref _), some (.int _), some (.int _), some (.int _), some (.int _), some (.int _), some (.int _), some (.int _), some (.int _)]) rfl ?_
          refine Y_aload_n 44 rfl (pc2 := 85) rfl rfl ?_
          refine Y_getR 45 rfl (pc2 := 88) rfl fl_mo_19 ly_mo (by decide) rfl rfl (by omega) ?_
          refine Y_iload 46 rfl (pc2 := 90) rfl rfl ?_
          refine Y_iload 47 rfl (pc2 := 92) rfl rfl ?_
          refine Y_ldc 48 rfl (pc2 := 94) rfl kc_mo_112 ?_
          refine Y_icmp_ne 49 rfl (pc2 := 97) rfl (tgt := 102) (by decide) (fun h94 => ?_) (fun h94 => ?_)
          · refine Y_iload 52 rfl (pc2 := 104) rfl rfl ?_
            refine Y_iast 53 rfl (pc2 := 105) rfl ly_mo_shifts rfl (by omega) (by decide) rfl ?_
            refine Y_iload 54 rfl (pc2 := 107) rfl rfl ?_
            refine Y_bipush 55 rfl (pc2 := 109) rfl (v := -9) (by decide) ?_
            refine Y_icmp_ne 56 rfl (pc2 := 112) rfl (tgt := 117) (by decide) (fun h109 => ?_) (fun h109 => ?_)
            · refine Y_iload 59 rfl (pc2 := 119) rfl rfl ?_
              refine Y_iret 60 rfl rfl rfl ⟨rfl, ?_⟩
              dsimp only
              refine ⟨?_, ?_, fun a ha => funext fun q => by rw [uw_ne (by omega)]⟩
              · unfold sp_strike; rw [cI_t (show stC _ _ _ _ _ from ⟨⟨⟨⟨l, hl, rfl⟩, ⟨f, hf, rfl⟩⟩, by rw [nv_nI (by omega)]; exact ⟨s, hs, rfl⟩⟩, ⟨g, hg, rfl⟩, hO⟩), nv_nI (k := l) (by omega), nv_nI (k := f) (by omega), nv_nI (k := g) (by omega), nv_nI (k := s) (by omega)]
                unfold oS
                first
                  | (rw [if_pos (show S 157 (ix l f g s) = -9 from by first | exact h109 | exact Classical.byContradiction h109)]; rfl)
                  | rw [if_neg (show ¬ S 157 (ix l f g s) = -9 from h109)]; rfl
                  | rw [if_neg (show ¬ S 157 (ix l f g s) = -9 from h109)]
              · unfold st_strike; rw [cI_t (show stC _ _ _ _ _ from ⟨⟨⟨⟨l, hl, rfl⟩, ⟨f, hf, rfl⟩⟩, by rw [nv_nI (by omega)]; exact ⟨s, hs, rfl⟩⟩, ⟨g, hg, rfl⟩, hO⟩), nv_nI (k := l) (by omega), nv_nI (k := f) (by omega), nv_nI (k := g) (by omega), nv_nI (k := s) (by omega)]
                unfold mtd
                first
                  | (rw [if_pos (show v = NONE_ from by first | exact h94 | exact Classical.byContradiction h94)]; exact RM_uw h (by decide))
                  | (rw [if_neg (show ¬ v = NONE_ from h94)]; exact RM_uw h (by decide))
            · refine Y_ldc 57 rfl (pc2 := 114) rfl kc_mo_112 ?_
              refine Y_goto 58 rfl (pc2 := 119) (by decide) ?_
              refine Y_iret 60 rfl rfl rfl ⟨rfl, ?_⟩
              dsimp only
              refine ⟨?_, ?_, fun a ha => funext fun q => by rw [uw_ne (by omega)]⟩
              · unfold sp_strike; rw [cI_t (show stC _ _ _ _ _ from ⟨⟨⟨⟨l, hl, rfl⟩, ⟨f, hf, rfl⟩⟩, by rw [nv_nI (by omega)]; exact ⟨s, hs, rfl⟩⟩, ⟨g, hg, rfl⟩, hO⟩), nv_nI (k := l) (by omega), nv_nI (k := f) (by omega), nv_nI (k := g) (by omega), nv_nI (k := s) (by omega)]
                unfold oS
                first
                  | (rw [if_pos (show S 157 (ix l f g s) = -9 from by first | exact h109 | exact Classical.byContradiction h109)]; rfl)
                  | rw [if_neg (show ¬ S 157 (ix l f g s) = -9 from h109)]; rfl
                  | rw [if_neg (show ¬ S 157 (ix l f g s) = -9 from h109)]
              · unfold st_strike; rw [cI_t (show stC _ _ _ _ _ from ⟨⟨⟨⟨l, hl, rfl⟩, ⟨f, hf, rfl⟩⟩, by rw [nv_nI (by omega)]; exact ⟨s, hs, rfl⟩⟩, ⟨g, hg, rfl⟩, hO⟩), nv_nI (k := l) (by omega), nv_nI (k := f) (by omega), nv_nI (k := g) (by omega), nv_nI (k := s) (by omega)]
                unfold mtd
                first
                  | (rw [if_pos (show v = NONE_ from by first | exact h94 | exact Classical.byContradiction h94)]; exact RM_uw h (by decide))
                  | (rw [if_neg (show ¬ v = NONE_ from h94)]; exact RM_uw h (by decide))
          · refine Y_bipush 50 rfl (pc2 := 99) rfl (v := -9) (by decide) ?_
            refine Y_goto 51 rfl (pc2 := 104) (by decide) ?_
            refine Y_iast 53 rfl (pc2 := 105) rfl ly_mo_shifts rfl (by omega) (by decide) rfl ?_
            refine Y_iload 54 rfl (pc2 := 107) rfl rfl ?_
            refine Y_bipush 55 rfl (pc2 := 109) rfl (v := -9) (by decide) ?_
            refine Y_icmp_ne 56 rfl (pc2 := 112) rfl (tgt := 117) (by decide) (fun h109 => ?_) (fun h109 => ?_)
            · refine Y_iload 59 rfl (pc2 := 119) rfl rfl ?_
              refine Y_iret 60 rfl rfl rfl ⟨rfl, ?_⟩
              dsimp only
              refine ⟨?_, ?_, fun a ha => funext fun q => by rw [uw_ne (by omega)]⟩
              · unfold sp_strike; rw [cI_t (show stC _ _ _ _ _ from ⟨⟨⟨⟨l, hl, rfl⟩, ⟨f, hf, rfl⟩⟩, by rw [nv_nI (by omega)]; exact ⟨s, hs, rfl⟩⟩, ⟨g, hg, rfl⟩, hO⟩), nv_nI (k := l) (by omega), nv_nI (k := f) (by omega), nv_nI (k := g) (by omega), nv_nI (k := s) (by omega)]
                unfold oS
                first
                  | (rw [if_pos (show S 157 (ix l f g s) = -9 from by first | exact h109 | exact Classical.byContradiction h109)]; rfl)
                  | rw [if_neg (show ¬ S 157 (ix l f g s) = -9 from h109)]; rfl
                  | rw [if_neg (show ¬ S 157 (ix l f g s) = -9 from h109)]
              · unfold st_strike; rw [cI_t (show stC _ _ _ _ _ from ⟨⟨⟨⟨l, hl, rfl⟩, ⟨f, hf, rfl⟩⟩, by rw [nv_nI (by omega)]; exact ⟨s, hs, rfl⟩⟩, ⟨g, hg, rfl⟩, hO⟩), nv_nI (k := l) (by omega), nv_nI (k := f) (by omega), nv_nI (k := g) (by omega), nv_nI (k := s) (by omega)]
                unfold mtd
                first
                  | (rw [if_pos (show v = NONE_ from by first | exact h94 | exact Classical.byContradiction h94)]; exact RM_uw h (by decide))
                  | (rw [if_neg (show ¬ v = NONE_ from h94)]; exact RM_uw h (by decide))
            · refine Y_ldc 57 rfl (pc2 := 114) rfl kc_mo_112 ?_
              refine Y_goto 58 rfl (pc2 := 119) (by decide) ?_
              refine Y_iret 60 rfl rfl rfl ⟨rfl, ?_⟩
              dsimp only
              refine ⟨?_, ?_, fun a ha => funext fun q => by rw [uw_ne (by omega)]⟩
              · unfold sp_strike; rw [cI_t (show stC _ _ _ _ _ from ⟨⟨⟨⟨l, hl, rfl⟩, ⟨f, hf, rfl⟩⟩, by rw [nv_nI (by omega)]; exact ⟨s, hs, rfl⟩⟩, ⟨g, hg, rfl⟩, hO⟩), nv_nI (k := l) (by omega), nv_nI (k := f) (by omega), nv_nI (k := g) (by omega), nv_nI (k := s) (by omega)]
                unfold oS
                first
                  | (rw [if_pos (show S 157 (ix l f g s) = -9 from by first | exact h109 | exact Classical.byContradiction h109)]; rfl)
                  | rw [if_neg (show ¬ S 157 (ix l f g s) = -9 from h109)]; rfl
                  | rw [if_neg (show ¬ S 157 (ix l f g s) = -9 from h109)]
              · unfold st_strike; rw [cI_t (show stC _ _ _ _ _ from ⟨⟨⟨⟨l, hl, rfl⟩, ⟨f, hf, rfl⟩⟩, by rw [nv_nI (by omega)]; exact ⟨s, hs, rfl⟩⟩, ⟨g, hg, rfl⟩, hO⟩), nv_nI (k := l) (by omega), nv_nI (k := f) (by omega), nv_nI (k := g) (by omega), nv_nI (k := s) (by omega)]
                unfold mtd
                first
                  | (rw [if_pos (show v = NONE_ from by first | exact h94 | exact Classical.byContradiction h94)]; exact RM_uw h (by decide))
                  | (rw [if_neg (show ¬ v = NONE_ from h94)]; exact RM_uw h (by decide))
        · refine Y_iload 26 rfl (pc2 := 53) rfl rfl ?_
          refine Y_bipush 27 rfl (pc2 := 55) rfl (v := -4) (by decide) ?_
          refine Y_iconst 28 rfl (pc2 := 56) rfl (v := nI 4) (by decide) ?_
          refine Y_cS 29 rfl (pc2 := 59) rfl ok_mo_isIn lk_mo_62 vs_mo_isIn (as := [.int _, .int _, .int _]) (rest := []) rfl rfl T_mo_isIn ?_
          rintro _ _ ⟨rfl, rfl⟩
          change Y _ _ _ _ _ [.int _] _ _
          refine Y_if_neb 30 rfl (pc2 := 62) rfl (tgt := 65) (by decide) (fun h59 => ?_) (fun h59 => ?_)
          · have hO : shO v := by first | exact Or.inl h48 | exact Or.inr h59
            refine Y_iload_n 33 rfl (pc2 := 66) rfl rfl ?_
            refine Y_iload_n 34 rfl (pc2 := 67) rfl rfl ?_
            refine Y_iload_n 35 rfl (pc2 := 68) rfl rfl ?_
            refine Y_iload 36 rfl (pc2 := 70) rfl rfl ?_
            refine Y_cS 37 rfl (pc2 := 73) rfl ok_mo_placeOf lk_mo_130 vs_mo_placeOf (as := [.int _, .int _, .int _, .int _]) (rest := []) rfl rfl T_mo_placeOf ?_
            rintro _ _ ⟨rfl, rfl⟩
            change Y _ _ _ _ _ [.int _] _ _
            refine Y_istore 38 rfl (pc2 := 75) rfl (Nat.le_of_ble_eq_true rfl) (ls2 := [some (.ref _), some (.int _), some (.int _), some (.int _), some (.int _), some (.int _), some (.int _), some (.int _), none]) rfl ?_
            refine Y_aload_n 39 rfl (pc2 := 76) rfl rfl ?_
            refine Y_getR 40 rfl (pc2 := 79) rfl fl_mo_19 ly_mo (by decide) rfl rfl (by omega) ?_
            refine Y_iload 41 rfl (pc2 := 81) rfl rfl ?_
            refine Y_iald 42 rfl (pc2 := 82) rfl ly_mo_shifts rfl (by omega) (by decide) ?_
            refine Y_top (h.e (by decide) (by decide)) ?_
            refine Y_istore 43 rfl (pc2 := 84) rfl (Nat.le_of_ble_eq_true rfl) (ls2 := [some (.ref _), some (.int _), some (.int _), some (.int _), some (.int _), some (.int _), some (.int _), some (.int _), some (.int _)]) rfl ?_
            refine Y_aload_n 44 rfl (pc2 := 85) rfl rfl ?_
            refine Y_getR 45 rfl (pc2 := 88) rfl fl_mo_19 ly_mo (by decide) rfl rfl (by omega) ?_
            refine Y_iload 46 rfl (pc2 := 90) rfl rfl ?_
            refine Y_iload 47 rfl (pc2 := 92) rfl rfl ?_
            refine Y_ldc 48 rfl (pc2 := 94) rfl kc_mo_112 ?_
            refine Y_icmp_ne 49 rfl (pc2 := 97) rfl (tgt := 102) (by decide) (fun h94 => ?_) (fun h94 => ?_)
            · refine Y_iload 52 rfl (pc2 := 104) rfl rfl ?_
              refine Y_iast 53 rfl (pc2 := 105) rfl ly_mo_shifts rfl (by omega) (by decide) rfl ?_
              refine Y_iload 54 rfl (pc2 := 107) rfl rfl ?_
              refine Y_bipush 55 rfl (pc2 := 109) rfl (v := -9) (by decide) ?_
              refine Y_icmp_ne 56 rfl (pc2 := 112) rfl (tgt := 117) (by decide) (fun h109 => ?_) (fun h109 => ?_)
              · refine Y_iload 59 rfl (pc2 := 119) rfl rfl ?_
                refine Y_iret 60 rfl rfl rfl ⟨rfl, ?_⟩
                dsimp only
                refine ⟨?_, ?_, fun a ha => funext fun q => by rw [uw_ne (by omega)]⟩
                · unfold sp_strike; rw [cI_t (show stC _ _ _ _ _ from ⟨⟨⟨⟨l, hl, rfl⟩, ⟨f, hf, rfl⟩⟩, by rw [nv_nI (by omega)]; exact ⟨s, hs, rfl⟩⟩, ⟨g, hg, rfl⟩, hO⟩), nv_nI (k := l) (by omega), nv_nI (k := f) (by omega), nv_nI (k := g) (by omega), nv_nI (k := s) (by omega)]
                  unfold oS
                  first
                    | (rw [if_pos (show S 157 (ix l f g s) = -9 from by first | exact h109 | exact Classical.byContradiction h109)]; rfl)
                    | rw [if_neg (show ¬ S 157 (ix l f g s) = -9 from h109)]; rfl
                    | rw [if_neg (show ¬ S 157 (ix l f g s) = -9 from h109)]
                · unfold st_strike; rw [cI_t (show stC _ _ _ _ _ from ⟨⟨⟨⟨l, hl, rfl⟩, ⟨f, hf, rfl⟩⟩, by rw [nv_nI (by omega)]; exact ⟨s, hs, rfl⟩⟩, ⟨g, hg, rfl⟩, hO⟩), nv_nI (k := l) (by omega), nv_nI (k := f) (by omega), nv_nI (k := g) (by omega), nv_nI (k := s) (by omega)]
                  unfold mtd
                  first
                    | (rw [if_pos (show v = NONE_ from by first | exact h94 | exact Classical.byContradiction h94)]; exact RM_uw h (by decide))
                    | (rw [if_neg (show ¬ v = NONE_ from h94)]; exact RM_uw h (by decide))
              · refine Y_ldc 57 rfl (pc2 := 114) rfl kc_mo_112 ?_
                refine Y_goto 58 rfl (pc2 := 119) (by decide) ?_
                refine Y_iret 60 rfl rfl rfl ⟨rfl, ?_⟩
                dsimp only
                refine ⟨?_, ?_, fun a ha => funext fun q => by rw [uw_ne (by omega)]⟩
                · unfold sp_strike; rw [cI_t (show stC _ _ _ _ _ from ⟨⟨⟨⟨l, hl, rfl⟩, ⟨f, hf, rfl⟩⟩, by rw [nv_nI (by omega)]; exact ⟨s, hs, rfl⟩⟩, ⟨g, hg, rfl⟩, hO⟩), nv_nI (k := l) (by omega), nv_nI (k := f) (by omega), nv_nI (k := g) (by omega), nv_nI (k := s) (by omega)]
                  unfold oS
                  first
                    | (rw [if_pos (show S 157 (ix l f g s) = -9 from by first | exact h109 | exact Classical.byContradiction h109)]; rfl)
                    | rw [if_neg (show ¬ S 157 (ix l f g s) = -9 from h109)]; rfl
                    | rw [if_neg (show ¬ S 157 (ix l f g s) = -9 from h109)]
                · unfold st_strike; rw [cI_t (show stC _ _ _ _ _ from ⟨⟨⟨⟨l, hl, rfl⟩, ⟨f, hf, rfl⟩⟩, by rw [nv_nI (by omega)]; exact ⟨s, hs, rfl⟩⟩, ⟨g, hg, rfl⟩, hO⟩), nv_nI (k := l) (by omega), nv_nI (k := f) (by omega), nv_nI (k := g) (by omega), nv_nI (k := s) (by omega)]
                  unfold mtd
                  first
                    | (rw [if_pos (show v = NONE_ from by first | exact h94 | exact Classical.byContradiction h94)]; exact RM_uw h (by decide))
                    | (rw [if_neg (show ¬ v = NONE_ from h94)]; exact RM_uw h (by decide))
            · refine Y_bipush 50 rfl (pc2 := 99) rfl (v := -9) (by decide) ?_
              refine Y_goto 51 rfl (pc2 := 104) (by decide) ?_
              refine Y_iast 53 rfl (pc2 := 105) rfl ly_mo_shifts rfl (by omega) (by decide) rfl ?_
              refine Y_iload 54 rfl (pc2 := 107) rfl rfl ?_
              refine Y_bipush 55 rfl (pc2 := 109) rfl (v := -9) (by decide) ?_
              refine Y_icmp_ne 56 rfl (pc2 := 112) rfl (tgt := 117) (by decide) (fun h109 => ?_) (fun h109 => ?_)
              · refine Y_iload 59 rfl (pc2 := 119) rfl rfl ?_
                refine Y_iret 60 rfl rfl rfl ⟨rfl, ?_⟩
                dsimp only
                refine ⟨?_, ?_, fun a ha => funext fun q => by rw [uw_ne (by omega)]⟩
                · unfold sp_strike; rw [cI_t (show stC _ _ _ _ _ from ⟨⟨⟨⟨l, hl, rfl⟩, ⟨f, hf, rfl⟩⟩, by rw [nv_nI (by omega)]; exact ⟨s, hs, rfl⟩⟩, ⟨g, hg, rfl⟩, hO⟩), nv_nI (k := l) (by omega), nv_nI (k := f) (by omega), nv_nI (k := g) (by omega), nv_nI (k := s) (by omega)]
                  unfold oS
                  first
                    | (rw [if_pos (show S 157 (ix l f g s) = -9 from by first | exact h109 | exact Classical.byContradiction h109)]; rfl)
                    | rw [if_neg (show ¬ S 157 (ix l f g s) = -9 from h109)]; rfl
                    | rw [if_neg (show ¬ S 157 (ix l f g s) = -9 from h109)]
                · unfold st_strike; rw [cI_t (show stC _ _ _ _ _ from ⟨⟨⟨⟨l, hl, rfl⟩, ⟨f, hf, rfl⟩⟩, by rw [nv_nI (by omega)]; exact ⟨s, hs, rfl⟩⟩, ⟨g, hg, rfl⟩, hO⟩), nv_nI (k := l) (by omega), nv_nI (k := f) (by omega), nv_nI (k := g) (by omega), nv_nI (k := s) (by omega)]
                  unfold mtd
                  first
                    | (rw [if_pos (show v = NONE_ from by first | exact h94 | exact Classical.byContradiction h94)]; exact RM_uw h (by decide))
                    | (rw [if_neg (show ¬ v = NONE_ from h94)]; exact RM_uw h (by decide))
              · refine Y_ldc 57 rfl (pc2 := 114) rfl kc_mo_112 ?_
                refine Y_goto 58 rfl (pc2 := 119) (by decide) ?_
                refine Y_iret 60 rfl rfl rfl ⟨rfl, ?_⟩
                dsimp only
                refine ⟨?_, ?_, fun a ha => funext fun q => by rw [uw_ne (by omega)]⟩
                · unfold sp_strike; rw [cI_t (show stC _ _ _ _ _ from ⟨⟨⟨⟨l, hl, rfl⟩, ⟨f, hf, rfl⟩⟩, by rw [nv_nI (by omega)]; exact ⟨s, hs, rfl⟩⟩, ⟨g, hg, rfl⟩, hO⟩), nv_nI (k := l) (by omega), nv_nI (k := f) (by omega), nv_nI (k := g) (by omega), nv_nI (k := s) (by omega)]
                  unfold oS
                  first
                    | (rw [if_pos (show S 157 (ix l f g s) = -9 from by first | exact h109 | exact Classical.byContradiction h109)]; rfl)
                    | rw [if_neg (show ¬ S 157 (ix l f g s) = -9 from h109)]; rfl
                    | rw [if_neg (show ¬ S 157 (ix l f g s) = -9 from h109)]
                · unfold st_strike; rw [cI_t (show stC _ _ _ _ _ from ⟨⟨⟨⟨l, hl, rfl⟩, ⟨f, hf, rfl⟩⟩, by rw [nv_nI (by omega)]; exact ⟨s, hs, rfl⟩⟩, ⟨g, hg, rfl⟩, hO⟩), nv_nI (k := l) (by omega), nv_nI (k := f) (by omega), nv_nI (k := g) (by omega), nv_nI (k := s) (by omega)]
                  unfold mtd
                  first
                    | (rw [if_pos (show v = NONE_ from by first | exact h94 | exact Classical.byContradiction h94)]; exact RM_uw h (by decide))
                    | (rw [if_neg (show ¬ v = NONE_ from h94)]; exact RM_uw h (by decide))
          · refine Y_ldc 31 rfl (pc2 := 64) rfl kc_mo_79 ?_
            refine Y_iret 32 rfl rfl rfl ⟨rfl, ?_⟩
            dsimp only
            first | exact pm_bad h (by unfold sp_strike; rw [cI_f (fun e => h5 e.1.1)]; rfl) (by unfold st_strike; rw [cI_f (fun e => h5 e.1.1)]) | exact pm_bad h (by unfold sp_strike; rw [cI_f (fun e => h14 e.2.1)]; rfl) (by unfold st_strike; rw [cI_f (fun e => h14 e.2.1)]) | exact pm_bad h (by unfold sp_strike; rw [cI_f (fun e => h29 (by have q := e.1.2; rw [nv_nI (by omega)] at q; exact q))]; rfl) (by unfold st_strike; rw [cI_f (fun e => h29 (by have q := e.1.2; rw [nv_nI (by omega)] at q; exact q))]) | exact pm_bad h (by unfold sp_strike; rw [cI_f (fun e => e.2.2.elim h48 h59)]; rfl) (by unfold st_strike; rw [cI_f (fun e => e.2.2.elim h48 h59)])

set_option maxHeartbeats 400000 in
theorem T_mo_together {G : Nat × (Nat → Int32)} {m : Mm} {S : Mm} (h : RM m S) (w : WF S) {x y z u : Int32} : Y G M_mo_together (0, 0) 0 (en_ M_mo_together [.ref (153), .int (x), .int (y), .int (z), .int (u)]) [] (LAY, m) (qm_ LAY (pm_ (sp_tog S x y z u) m (st_tog S x y z u))) := by
  change Y _ _ _ _ [some (.ref _), some (.int _), some (.int _), some (.int _), some (.int _), none, none] _ _ _
  refine Y_iload_n 0 rfl (pc2 := 1) rfl rfl ?_
  refine Y_iload_n 1 rfl (pc2 := 2) rfl rfl ?_
  refine Y_cS 2 rfl (pc2 := 5) rfl ok_mo_isFigure lk_mo_124 vs_mo_isFigure (as := [.int _, .int _]) (rest := []) rfl rfl T_mo_isFigure ?_
  rintro _ _ ⟨rfl, rfl⟩
  change Y _ _ _ _ _ [.int _] _ _
  refine Y_if_eqb 3 rfl (pc2 := 8) rfl (tgt := 32) (by decide) (fun h5 => ?_) (fun h5 => ?_)
  · refine Y_ldc 17 rfl (pc2 := 34) rfl kc_mo_79 ?_
    refine Y_iret 18 rfl rfl rfl ⟨rfl, ?_⟩
    dsimp only
    first | exact pm_bad h (by unfold sp_tog; rw [cI_f (fun e => h5 e.1.1)]; rfl) (by unfold st_tog; rw [cI_f (fun e => h5 e.1.1)]) | exact pm_bad h (by unfold sp_tog; rw [cI_f (fun e => h19 (by have q := e.1.2; rw [nv_nI (by omega)] at q; exact q))]; rfl) (by unfold st_tog; rw [cI_f (fun e => h19 (by have q := e.1.2; rw [nv_nI (by omega)] at q; exact q))]) | exact pm_bad h (by unfold sp_tog; rw [cI_f (fun e => h29 e.2)]; rfl) (by unfold st_tog; rw [cI_f (fun e => h29 e.2)])
  · obtain ⟨⟨l, hl, rfl⟩, ⟨f, hf, rfl⟩⟩ := h5
    have hz := sz_16 hl
    refine Y_iload_n 4 rfl (pc2 := 9) rfl rfl ?_
    refine Y_iconst 5 rfl (pc2 := 10) rfl (v := nI 0) (by decide) ?_
    refine Y_iload_n 6 rfl (pc2 := 11) rfl rfl ?_
    refine Y_cS 7 rfl (pc2 := 14) rfl ok_mo_stepsOf lk_mo_127 vs_mo_stepsOf (as := [.int _]) (rest := [.int _, .int _]) rfl rfl (T_mo_stepsOf (by omega)) ?_
    rintro _ _ ⟨rfl, rfl⟩
    change Y _ _ _ _ _ [.int _, .int _, .int _] _ _
    refine Y_iconst 8 rfl (pc2 := 15) rfl (v := nI 1) (by decide) ?_
    refine Y_isub 9 rfl (pc2 := 16) rfl ?_
    refine Y_cS 10 rfl (pc2 := 19) rfl ok_mo_isIn lk_mo_62 vs_mo_isIn (as := [.int _, .int _, .int _]) (rest := []) rfl rfl (T_mo_isInm (by omega)) ?_
    rintro _ _ ⟨rfl, rfl⟩
    change Y _ _ _ _ _ [.int _] _ _
    refine Y_if_eqb 11 rfl (pc2 := 22) rfl (tgt := 32) (by decide) (fun h19 => ?_) (fun h19 => ?_)
    · refine Y_ldc 17 rfl (pc2 := 34) rfl kc_mo_79 ?_
      refine Y_iret 18 rfl rfl rfl ⟨rfl, ?_⟩
      dsimp only
      first | exact pm_bad h (by unfold sp_tog; rw [cI_f (fun e => h5 e.1.1)]; rfl) (by unfold st_tog; rw [cI_f (fun e => h5 e.1.1)]) | exact pm_bad h (by unfold sp_tog; rw [cI_f (fun e => h19 (by have q := e.1.2; rw [nv_nI (by omega)] at q; exact q))]; rfl) (by unfold st_tog; rw [cI_f (fun e => h19 (by have q := e.1.2; rw [nv_nI (by omega)] at q; exact q))]) | exact pm_bad h (by unfold sp_tog; rw [cI_f (fun e => h29 e.2)]; rfl) (by unfold st_tog; rw [cI_f (fun e => h29 e.2)])
    · refine Y_iload 12 rfl (pc2 := 24) rfl rfl ?_
      refine Y_iconst 13 rfl (pc2 := 25) rfl (v := nI 0) (by decide) ?_
      refine Y_iconst 14 rfl (pc2 := 26) rfl (v := nI 1) (by decide) ?_
      refine Y_cS 15 rfl (pc2 := 29) rfl ok_mo_isIn lk_mo_62 vs_mo_isIn (as := [.int _, .int _, .int _]) (rest := []) rfl rfl (T_mo_isIn0 (by omega)) ?_
      rintro _ _ ⟨rfl, rfl⟩
      change Y _ _ _ _ _ [.int _] _ _
      refine Y_if_neb 16 rfl (pc2 := 32) rfl (tgt := 35) (by decide) (fun h29 => ?_) (fun h29 => ?_)
      · obtain ⟨s, hs, rfl⟩ := h19
        obtain ⟨o, ho, rfl⟩ := h29
        obtain ⟨q, hq, hm1⟩ := w.m (iy l f s) (by unfold iy; omega)
        refine Y_bipush 19 rfl (pc2 := 37) rfl (v := nI 16) (by decide) ?_
        refine Y_bipush 20 rfl (pc2 := 39) rfl (v := nI 6) (by decide) ?_
        refine Y_iload_n 21 rfl (pc2 := 40) rfl rfl ?_
        refine Y_imul 22 rfl (pc2 := 41) rfl ?_
        refine Y_top (nI_mul _ _) ?_
        refine Y_iload_n 23 rfl (pc2 := 42) rfl rfl ?_
        refine Y_iadd 24 rfl (pc2 := 43) rfl ?_
        refine Y_top (nI_add _ _) ?_
        refine Y_imul 25 rfl (pc2 := 44) rfl ?_
        refine Y_top (nI_mul _ _) ?_
        refine Y_iload_n 26 rfl (pc2 := 45) rfl rfl ?_
        refine Y_iadd 27 rfl (pc2 := 46) rfl ?_
        refine Y_top (nI_add _ _) ?_
        refine Y_istore 28 rfl (pc2 := 48) rfl (Nat.le_of_ble_eq_true rfl) (ls2 := [some (.ref _), some (.int _), some (.int _), some (.int _), some (.int _), some (.int _), none]) rfl ?_
        refine Y_aload_n 29 rfl (pc2 := 49) rfl rfl ?_
        refine Y_getR 30 rfl (pc2 := 52) rfl fl_mo_22 ly_mo (by decide) rfl rfl (by omega) ?_
        refine Y_iload 31 rfl (pc2 := 54) rfl rfl ?_
        refine Y_zald 32 rfl (pc2 := 55) rfl ly_mo_may rfl (by omega) (by decide) ?_
        refine Y_top ((h.e (by decide) (by decide)).trans hm1) ?_
        refine Y_if_eqn 33 rfl (pc2 := 58) rfl (tgt := 62) (by decide) (by omega) (fun h55 => ?_) (fun h55 => ?_)
        · refine Y_iconst 36 rfl (pc2 := 63) rfl (v := nI 0) (by decide) ?_
          refine Y_istore 37 rfl (pc2 := 65) rfl (Nat.le_of_ble_eq_true rfl) (ls2 := [some (.ref _), some (.int _), some (.int _), some (.int _), some (.int _), some (.int _), some (.int _)]) rfl ?_
          refine Y_aload_n 38 rfl (pc2 := 66) rfl rfl ?_
          refine Y_getR 39 rfl (pc2 := 69) rfl fl_mo_22 ly_mo (by decide) rfl rfl (by omega) ?_
          refine Y_iload 40 rfl (pc2 := 71) rfl rfl ?_
          refine Y_iload 41 rfl (pc2 := 73) rfl rfl ?_
          refine Y_iconst 42 rfl (pc2 := 74) rfl (v := nI 1) (by decide) ?_
          refine Y_icmp_nen 43 rfl (pc2 := 77) rfl (tgt := 81) (by decide) (by omega) (by omega) (fun h74 => ?_) (fun h74 => ?_)
          · refine Y_iconst 46 rfl (pc2 := 82) rfl (v := nI 0) (by decide) ?_
            refine Y_zast 47 rfl (pc2 := 83) rfl ly_mo_may rfl (by omega) (by decide) rfl ?_
            refine Y_iload 48 rfl (pc2 := 85) rfl rfl ?_
            refine Y_iret 49 rfl rfl rfl ⟨rfl, ?_⟩
            dsimp only
            refine ⟨?_, ?_, fun a ha => funext fun q => by rw [uw_ne (by omega)]⟩
            · unfold sp_tog; rw [cI_t (show toC _ _ _ _ from ⟨⟨⟨⟨l, hl, rfl⟩, ⟨f, hf, rfl⟩⟩, by rw [nv_nI (by omega)]; exact ⟨s, hs, rfl⟩⟩, ⟨o, ho, rfl⟩⟩), nv_nI (k := l) (by omega), nv_nI (k := f) (by omega), nv_nI (k := s) (by omega)]; rw [hm1]; first | rw [show q = 1 by omega] | rw [show q = 0 by omega]
            · unfold st_tog; rw [cI_t (show toC _ _ _ _ from ⟨⟨⟨⟨l, hl, rfl⟩, ⟨f, hf, rfl⟩⟩, by rw [nv_nI (by omega)]; exact ⟨s, hs, rfl⟩⟩, ⟨o, ho, rfl⟩⟩), nv_nI (k := l) (by omega), nv_nI (k := f) (by omega), nv_nI (k := s) (by omega)]
              have e := RM_uw (a := 158) (k := iy l f s) (v := nI o) h (by decide)
              first
                | (rw [show o = 1 by omega] at e ⊢; exact e)
                | (rw [show o = 0 by omega] at e ⊢; exact e)
          · refine Y_iconst 44 rfl (pc2 := 78) rfl (v := nI 1) (by decide) ?_
            refine Y_goto 45 rfl (pc2 := 82) (by decide) ?_
            refine Y_zast 47 rfl (pc2 := 83) rfl ly_mo_may rfl (by omega) (by decide) rfl ?_
            refine Y_iload 48 rfl (pc2 := 85) rfl rfl ?_
            refine Y_iret 49 rfl rfl rfl ⟨rfl, ?_⟩
            dsimp only
            refine ⟨?_, ?_, fun a ha => funext fun q => by rw [uw_ne (by omega)]⟩
            · unfold sp_tog; rw [cI_t (show toC _ _ _ _ from ⟨⟨⟨⟨l, hl, rfl⟩, ⟨f, hf, rfl⟩⟩, by rw [nv_nI (by omega)]; exact ⟨s, hs, rfl⟩⟩, ⟨o, ho, rfl⟩⟩), nv_nI (k := l) (by omega), nv_nI (k := f) (by omega), nv_nI (k := s) (by omega)]; rw [hm1]; first | rw [show q = 1 by omega] | rw [show q = 0 by omega]
            · unfold st_tog; rw [cI_t (show toC _ _ _ _ from ⟨⟨⟨⟨l, hl, rfl⟩, ⟨f, hf, rfl⟩⟩, by rw [nv_nI (by omega)]; exact ⟨s, hs, rfl⟩⟩, ⟨o, ho, rfl⟩⟩), nv_nI (k := l) (by omega), nv_nI (k := f) (by omega), nv_nI (k := s) (by omega)]
              have e := RM_uw (a := 158) (k := iy l f s) (v := nI o) h (by decide)
              first
                | (rw [show o = 1 by omega] at e ⊢; exact e)
                | (rw [show o = 0 by omega] at e ⊢; exact e)
        · refine Y_iconst 34 rfl (pc2 := 59) rfl (v := nI 1) (by decide) ?_
          refine Y_goto 35 rfl (pc2 := 63) (by decide) ?_
          refine Y_istore 37 rfl (pc2 := 65) rfl (Nat.le_of_ble_eq_true rfl) (ls2 := [some (.ref _), some (.int _), some (.int _), some (.int _), some (.int _), some (.int _), some (.int _)]) rfl ?_
          refine Y_aload_n 38 rfl (pc2 := 66) rfl rfl ?_
          refine Y_getR 39 rfl (pc2 := 69) rfl fl_mo_22 ly_mo (by decide) rfl rfl (by omega) ?_
          refine Y_iload 40 rfl (pc2 := 71) rfl rfl ?_
          refine Y_iload 41 rfl (pc2 := 73) rfl rfl ?_
          refine Y_iconst 42 rfl (pc2 := 74) rfl (v := nI 1) (by decide) ?_
          refine Y_icmp_nen 43 rfl (pc2 := 77) rfl (tgt := 81) (by decide) (by omega) (by omega) (fun h74 => ?_) (fun h74 => ?_)
          · refine Y_iconst 46 rfl (pc2 := 82) rfl (v := nI 0) (by decide) ?_
            refine Y_zast 47 rfl (pc2 := 83) rfl ly_mo_may rfl (by omega) (by decide) rfl ?_
            refine Y_iload 48 rfl (pc2 := 85) rfl rfl ?_
            refine Y_iret 49 rfl rfl rfl ⟨rfl, ?_⟩
            dsimp only
            refine ⟨?_, ?_, fun a ha => funext fun q => by rw [uw_ne (by omega)]⟩
            · unfold sp_tog; rw [cI_t (show toC _ _ _ _ from ⟨⟨⟨⟨l, hl, rfl⟩, ⟨f, hf, rfl⟩⟩, by rw [nv_nI (by omega)]; exact ⟨s, hs, rfl⟩⟩, ⟨o, ho, rfl⟩⟩), nv_nI (k := l) (by omega), nv_nI (k := f) (by omega), nv_nI (k := s) (by omega)]; rw [hm1]; first | rw [show q = 1 by omega] | rw [show q = 0 by omega]
            · unfold st_tog; rw [cI_t (show toC _ _ _ _ from ⟨⟨⟨⟨l, hl, rfl⟩, ⟨f, hf, rfl⟩⟩, by rw [nv_nI (by omega)]; exact ⟨s, hs, rfl⟩⟩, ⟨o, ho, rfl⟩⟩), nv_nI (k := l) (by omega), nv_nI (k := f) (by omega), nv_nI (k := s) (by omega)]
              have e := RM_uw (a := 158) (k := iy l f s) (v := nI o) h (by decide)
              first
                | (rw [show o = 1 by omega] at e ⊢; exact e)
                | (rw [show o = 0 by omega] at e ⊢; exact e)
          · refine Y_iconst 44 rfl (pc2 := 78) rfl (v := nI 1) (by decide) ?_
            refine Y_goto 45 rfl (pc2 := 82) (by decide) ?_
            refine Y_zast 47 rfl (pc2 := 83) rfl ly_mo_may rfl (by omega) (by decide) rfl ?_
            refine Y_iload 48 rfl (pc2 := 85) rfl rfl ?_
            refine Y_iret 49 rfl rfl rfl ⟨rfl, ?_⟩
            dsimp only
            refine ⟨?_, ?_, fun a ha => funext fun q => by rw [uw_ne (by omega)]⟩
            · unfold sp_tog; rw [cI_t (show toC _ _ _ _ from ⟨⟨⟨⟨l, hl, rfl⟩, ⟨f, hf, rfl⟩⟩, by rw [nv_nI (by omega)]; exact ⟨s, hs, rfl⟩⟩, ⟨o, ho, rfl⟩⟩), nv_nI (k := l) (by omega), nv_nI (k := f) (by omega), nv_nI (k := s) (by omega)]; rw [hm1]; first | rw [show q = 1 by omega] | rw [show q = 0 by omega]
            · unfold st_tog; rw [cI_t (show toC _ _ _ _ from ⟨⟨⟨⟨l, hl, rfl⟩, ⟨f, hf, rfl⟩⟩, by rw [nv_nI (by omega)]; exact ⟨s, hs, rfl⟩⟩, ⟨o, ho, rfl⟩⟩), nv_nI (k := l) (by omega), nv_nI (k := f) (by omega), nv_nI (k := s) (by omega)]
              have e := RM_uw (a := 158) (k := iy l f s) (v := nI o) h (by decide)
              first
                | (rw [show o = 1 by omega] at e ⊢; exact e)
                | (rw [show o = 0 by omega] at e ⊢; exact e)
      · refine Y_ldc 17 rfl (pc2 := 34) rfl kc_mo_79 ?_
        refine Y_iret 18 rfl rfl rfl ⟨rfl, ?_⟩
        dsimp only
        first | exact pm_bad h (by unfold sp_tog; rw [cI_f (fun e => h5 e.1.1)]; rfl) (by unfold st_tog; rw [cI_f (fun e => h5 e.1.1)]) | exact pm_bad h (by unfold sp_tog; rw [cI_f (fun e => h19 (by have q := e.1.2; rw [nv_nI (by omega)] at q; exact q))]; rfl) (by unfold st_tog; rw [cI_f (fun e => h19 (by have q := e.1.2; rw [nv_nI (by omega)] at q; exact q))]) | exact pm_bad h (by unfold sp_tog; rw [cI_f (fun e => h29 e.2)]; rfl) (by unfold st_tog; rw [cI_f (fun e => h29 e.2)])

set_option maxHeartbeats 400000 in
theorem T_mo_use {G : Nat × (Nat → Int32)} {m : Mm} {S : Mm} (h : RM m S) (w : WF S) {x y z : Int32} : Y G M_mo_use (0, 0) 0 (en_ M_mo_use [.ref (153), .int (x), .int (y), .int (z)]) [] (LAY, m) (qm_ LAY (pm_ (sp_use S x y z) m (st_use S x y z))) := by
  change Y _ _ _ _ [some (.ref _), some (.int _), some (.int _), some (.int _), none] _ _ _
  refine Y_iload_n 0 rfl (pc2 := 1) rfl rfl ?_
  refine Y_iload_n 1 rfl (pc2 := 2) rfl rfl ?_
  refine Y_cS 2 rfl (pc2 := 5) rfl ok_mo_isFigure lk_mo_124 vs_mo_isFigure (as := [.int _, .int _]) (rest := []) rfl rfl T_mo_isFigure ?_
  rintro _ _ ⟨rfl, rfl⟩
  change Y _ _ _ _ _ [.int _] _ _
  refine Y_if_eqb 3 rfl (pc2 := 8) rfl (tgt := 17) (by decide) (fun h5 => ?_) (fun h5 => ?_)
  · refine Y_ldc 9 rfl (pc2 := 19) rfl kc_mo_79 ?_
    refine Y_iret 10 rfl rfl rfl ⟨rfl, ?_⟩
    dsimp only
    first | exact pm_bad h (by unfold sp_use; rw [cI_f (fun e => h5 e.1)]; rfl) (by unfold st_use; rw [cI_f (fun e => h5 e.1)]) | exact pm_bad h (by unfold sp_use; rw [cI_f (fun e => h14 e.2)]; rfl) (by unfold st_use; rw [cI_f (fun e => h14 e.2)])
  · obtain ⟨⟨l, hl, rfl⟩, ⟨f, hf, rfl⟩⟩ := h5
    refine Y_iload_n 4 rfl (pc2 := 9) rfl rfl ?_
    refine Y_iconst 5 rfl (pc2 := 10) rfl (v := nI 0) (by decide) ?_
    refine Y_iconst 6 rfl (pc2 := 11) rfl (v := nI 2) (by decide) ?_
    refine Y_cS 7 rfl (pc2 := 14) rfl ok_mo_isIn lk_mo_62 vs_mo_isIn (as := [.int _, .int _, .int _]) (rest := []) rfl rfl (T_mo_isIn0 (by omega)) ?_
    rintro _ _ ⟨rfl, rfl⟩
    change Y _ _ _ _ _ [.int _] _ _
    refine Y_if_neb 8 rfl (pc2 := 17) rfl (tgt := 20) (by decide) (fun h14 => ?_) (fun h14 => ?_)
    · obtain ⟨k, hk, rfl⟩ := h14
      refine Y_aload_n 11 rfl (pc2 := 21) rfl rfl ?_
      refine Y_getR 12 rfl (pc2 := 24) rfl fl_mo_26 ly_mo (by decide) rfl rfl (by omega) ?_
      refine Y_iconst 13 rfl (pc2 := 25) rfl (v := nI 3) (by decide) ?_
      refine Y_iload_n 14 rfl (pc2 := 26) rfl rfl ?_
      refine Y_imul 15 rfl (pc2 := 27) rfl ?_
      refine Y_top (nI_mul _ _) ?_
      refine Y_iload_n 16 rfl (pc2 := 28) rfl rfl ?_
      refine Y_iadd 17 rfl (pc2 := 29) rfl ?_
      refine Y_top (nI_add _ _) ?_
      refine Y_iald 18 rfl (pc2 := 30) rfl ly_mo_used rfl (by omega) (by decide) ?_
      refine Y_top (h.e (by decide) (by decide)) ?_
      refine Y_istore 19 rfl (pc2 := 32) rfl (Nat.le_of_ble_eq_true rfl) (ls2 := [some (.ref _), some (.int _), some (.int _), some (.int _), some (.int _)]) rfl ?_
      refine Y_aload_n 20 rfl (pc2 := 33) rfl rfl ?_
      refine Y_getR 21 rfl (pc2 := 36) rfl fl_mo_26 ly_mo (by decide) rfl rfl (by omega) ?_
      refine Y_iconst 22 rfl (pc2 := 37) rfl (v := nI 3) (by decide) ?_
      refine Y_iload_n 23 rfl (pc2 := 38) rfl rfl ?_
      refine Y_imul 24 rfl (pc2 := 39) rfl ?_
      refine Y_top (nI_mul _ _) ?_
      refine Y_iload_n 25 rfl (pc2 := 40) rfl rfl ?_
      refine Y_iadd 26 rfl (pc2 := 41) rfl ?_
      refine Y_top (nI_add _ _) ?_
      refine Y_iload_n 27 rfl (pc2 := 42) rfl rfl ?_
      refine Y_iast 28 rfl (pc2 := 43) rfl ly_mo_used rfl (by omega) (by decide) rfl ?_
      refine Y_iload 29 rfl (pc2 := 45) rfl rfl ?_
      refine Y_iret 30 rfl rfl rfl ⟨rfl, ?_⟩
      dsimp only
      exact ⟨by unfold sp_use; rw [cI_t (show usC _ _ _ from ⟨⟨⟨l, hl, rfl⟩, ⟨f, hf, rfl⟩⟩, ⟨k, hk, rfl⟩⟩), nv_nI (k := l) (by omega), nv_nI (k := k) (by omega)], by unfold st_use; rw [cI_t (show usC _ _ _ from ⟨⟨⟨l, hl, rfl⟩, ⟨f, hf, rfl⟩⟩, ⟨k, hk, rfl⟩⟩), nv_nI (k := l) (by omega), nv_nI (k := k) (by omega)]; exact RM_uw h (by decide), fun a ha => funext fun q => by rw [uw_ne (by omega)]⟩
    · refine Y_ldc 9 rfl (pc2 := 19) rfl kc_mo_79 ?_
      refine Y_iret 10 rfl rfl rfl ⟨rfl, ?_⟩
      dsimp only
      first | exact pm_bad h (by unfold sp_use; rw [cI_f (fun e => h5 e.1)]; rfl) (by unfold st_use; rw [cI_f (fun e => h5 e.1)]) | exact pm_bad h (by unfold sp_use; rw [cI_f (fun e => h14 e.2)]; rfl) (by unfold st_use; rw [cI_f (fun e => h14 e.2)])

set_option maxHeartbeats 400000 in
theorem T_mo_trim {G : Nat × (Nat → Int32)} {m : Mm} {S : Mm} (h : RM m S) (w : WF S) {x : Int32} : Y G M_mo_trim (0, 0) 0 (en_ M_mo_trim [.ref (153), .int (x)]) [] (LAY, m) (qm_ LAY (pm_ (sp_trim S x) m (st_trim S x))) := by
  change Y _ _ _ _ [some (.ref _), some (.int _)] _ _ _
  have ht := w.tp.2
  refine Y_iload_n 0 rfl (pc2 := 1) rfl rfl ?_
  refine Y_iconst 1 rfl (pc2 := 2) rfl (v := nI 0) (by decide) ?_
  refine Y_aload_n 2 rfl (pc2 := 3) rfl rfl ?_
  refine Y_getI 3 rfl (pc2 := 6) rfl fl_mo_70 ly_mo (by decide) rfl ?_
  refine Y_top (h.2.2.trans w.tp.1) ?_
  refine Y_cS 4 rfl (pc2 := 9) rfl ok_mo_isIn lk_mo_62 vs_mo_isIn (as := [.int _, .int _, .int _]) (rest := []) rfl rfl (T_mo_isIn0 (by omega)) ?_
  rintro _ _ ⟨rfl, rfl⟩
  change Y _ _ _ _ _ [.int _] _ _
  refine Y_if_neb 5 rfl (pc2 := 12) rfl (tgt := 15) (by decide) (fun h9 => ?_) (fun h9 => ?_)
  · refine Y_aload_n 8 rfl (pc2 := 16) rfl rfl ?_
    refine Y_iload_n 9 rfl (pc2 := 17) rfl rfl ?_
    refine Y_putI 10 rfl (pc2 := 20) rfl fl_mo_70 ly_mo (by decide) ⟨rfl, rfl⟩ ⟨_, _, _, rfl, rfl⟩ rfl ?_
    refine Y_iload_n 11 rfl (pc2 := 21) rfl rfl ?_
    refine Y_iret 12 rfl rfl rfl ⟨rfl, ?_⟩
    dsimp only
    exact ⟨by unfold sp_trim; rw [cI_t h9], by unfold st_trim; rw [cI_t h9]; exact RM_12 h, fun a ha => funext fun q => by rw [uw_ne (by omega)]⟩
  · refine Y_ldc 6 rfl (pc2 := 14) rfl kc_mo_79 ?_
    refine Y_iret 7 rfl rfl rfl ⟨rfl, ?_⟩
    dsimp only
    exact pm_bad h (by unfold sp_trim; rw [cI_f (fun e => h9 e)]; rfl) (by unfold st_trim; rw [cI_f (fun e => h9 e)])

def pN_ (m S : Mm) : Option Value → Mm → Prop := fun v m' => v = none ∧ RM m' S ∧ ∀ a, a < 153 → m' a = m a
set_option maxHeartbeats 400000 in
theorem FO_0 {G : Nat × (Nat → Int32)} {m S : Mm} (h : RM m S) {x : Int32} : Y G M_mo_four (0, 0) 3 [some (.ref 153), some (.int x), some (.int (-8))] [] (LAY, m) (qm_ LAY (pN_ m S)) := by
  refine Y_iload_n 2 rfl (pc2 := 4) rfl rfl ?_
  refine Y_if_lt 3 rfl (pc2 := 7) rfl (tgt := 39) (by decide) (fun h4 => ?_) (fun h4 => ?_)
  · refine Y_vret 22 rfl rfl ⟨rfl, ?_⟩
    dsimp only
    exact ⟨rfl, h, fun _ _ => rfl⟩
  · exact absurd (by decide) h4

set_option maxHeartbeats 400000 in
theorem FO_1 {G : Nat × (Nat → Int32)} {m S : Mm} (h : RM m S) (w : WF S) {x : Int32} (ht : tpd S + 1 ≤ 64) : Y G M_mo_four (0, 0) 3 [some (.ref 153), some (.int x), some (.int (nI 0))] [] (LAY, m) (qm_ LAY (pN_ m (pshs x 1 S))) := by
  refine Y_iload_n 2 rfl (pc2 := 4) rfl rfl ?_
  refine Y_if_ltn 3 rfl (pc2 := 7) rfl (tgt := 39) (by decide) (by omega) ?_
  refine Y_aload_n 4 rfl (pc2 := 8) rfl rfl ?_
  refine Y_getR 5 rfl (pc2 := 11) rfl fl_mo_41 ly_mo (by decide) rfl rfl (by omega) ?_
  refine Y_aload_n 6 rfl (pc2 := 12) rfl rfl ?_
  refine Y_getI 7 rfl (pc2 := 15) rfl fl_mo_70 ly_mo (by decide) rfl ?_
  refine Y_top (h.2.2.trans w.tp.1) ?_
  refine Y_iload_n 8 rfl (pc2 := 16) rfl rfl ?_
  refine Y_iload_n 9 rfl (pc2 := 17) rfl rfl ?_
  refine Y_ishr 10 rfl (pc2 := 18) rfl ?_
  refine Y_sipush 11 rfl (pc2 := 21) rfl (v := nI 255) (by decide) ?_
  refine Y_iand 12 rfl (pc2 := 22) rfl ?_
  refine Y_iast 13 rfl (pc2 := 23) rfl ly_mo_tape rfl (by omega) (by decide) rfl ?_
  refine Y_aload_n 14 rfl (pc2 := 24) rfl rfl ?_
  refine Y_dup 15 rfl (pc2 := 25) rfl rfl ?_
  refine Y_getI 16 rfl (pc2 := 28) rfl fl_mo_70 ly_mo (by decide) rfl ?_
  refine Y_top ((uw_ne (by omega)).trans (h.2.2.trans w.tp.1)) ?_
  refine Y_iconst 17 rfl (pc2 := 29) rfl (v := nI 1) (by decide) ?_
  refine Y_iadd 18 rfl (pc2 := 30) rfl ?_
  refine Y_top (nI_add _ _) ?_
  refine Y_putI 19 rfl (pc2 := 33) rfl fl_mo_70 ly_mo (by decide) ⟨rfl, rfl⟩ ⟨_, _, _, rfl, rfl⟩ rfl ?_
  refine Y_iinc 20 rfl (pc2 := 36) rfl rfl rfl (ls2 := [some (.ref _), some (.int _), some (.int _)]) rfl ?_
  refine Y_goto 21 rfl (pc2 := 3) (by decide) ?_
  have hp : RM _ (psh S (mb x 0)) := RM_12 (RM_uw h (by decide))
  refine Y_ls (ls2 := [some (.ref 153), some (.int x), some (.int (-8))]) (by rw [show nI 0 + Int32.ofInt (-8) = -8 by decide]) ?_
  exact (FO_0 hp).mono (fun v σ hq => ⟨hq.1, hq.2.1, hq.2.2.1, fun a ha => (hq.2.2.2 a ha).trans (funext fun j => by rw [uw_ne (by omega), uw_ne (by omega)])⟩)

set_option maxHeartbeats 400000 in
theorem FO_2 {G : Nat × (Nat → Int32)} {m S : Mm} (h : RM m S) (w : WF S) {x : Int32} (ht : tpd S + 2 ≤ 64) : Y G M_mo_four (0, 0) 3 [some (.ref 153), some (.int x), some (.int (nI 8))] [] (LAY, m) (qm_ LAY (pN_ m (pshs x 2 S))) := by
  refine Y_iload_n 2 rfl (pc2 := 4) rfl rfl ?_
  refine Y_if_ltn 3 rfl (pc2 := 7) rfl (tgt := 39) (by decide) (by omega) ?_
  refine Y_aload_n 4 rfl (pc2 := 8) rfl rfl ?_
  refine Y_getR 5 rfl (pc2 := 11) rfl fl_mo_41 ly_mo (by decide) rfl rfl (by omega) ?_
  refine Y_aload_n 6 rfl (pc2 := 12) rfl rfl ?_
  refine Y_getI 7 rfl (pc2 := 15) rfl fl_mo_70 ly_mo (by decide) rfl ?_
  refine Y_top (h.2.2.trans w.tp.1) ?_
  refine Y_iload_n 8 rfl (pc2 := 16) rfl rfl ?_
  refine Y_iload_n 9 rfl (pc2 := 17) rfl rfl ?_
  refine Y_ishr 10 rfl (pc2 := 18) rfl ?_
  refine Y_sipush 11 rfl (pc2 := 21) rfl (v := nI 255) (by decide) ?_
  refine Y_iand 12 rfl (pc2 := 22) rfl ?_
  refine Y_iast 13 rfl (pc2 := 23) rfl ly_mo_tape rfl (by omega) (by decide) rfl ?_
  refine Y_aload_n 14 rfl (pc2 := 24) rfl rfl ?_
  refine Y_dup 15 rfl (pc2 := 25) rfl rfl ?_
  refine Y_getI 16 rfl (pc2 := 28) rfl fl_mo_70 ly_mo (by decide) rfl ?_
  refine Y_top ((uw_ne (by omega)).trans (h.2.2.trans w.tp.1)) ?_
  refine Y_iconst 17 rfl (pc2 := 29) rfl (v := nI 1) (by decide) ?_
  refine Y_iadd 18 rfl (pc2 := 30) rfl ?_
  refine Y_top (nI_add _ _) ?_
  refine Y_putI 19 rfl (pc2 := 33) rfl fl_mo_70 ly_mo (by decide) ⟨rfl, rfl⟩ ⟨_, _, _, rfl, rfl⟩ rfl ?_
  refine Y_iinc 20 rfl (pc2 := 36) rfl rfl rfl (ls2 := [some (.ref _), some (.int _), some (.int _)]) rfl ?_
  refine Y_goto 21 rfl (pc2 := 3) (by decide) ?_
  have hp : RM _ (psh S (mb x 1)) := RM_12 (RM_uw h (by decide))
  refine Y_ls (ls2 := [some (.ref 153), some (.int x), some (.int (nI 0))]) (by rw [show nI 8 + Int32.ofInt (-8) = nI 0 by decide]) ?_
  exact (FO_1 hp (WF_psh w (by omega) mb_iR) (by rw [psh_t (by omega)]; omega)).mono (fun v σ hq => ⟨hq.1, hq.2.1, hq.2.2.1, fun a ha => (hq.2.2.2 a ha).trans (funext fun j => by rw [uw_ne (by omega), uw_ne (by omega)])⟩)

set_option maxHeartbeats 400000 in
theorem FO_3 {G : Nat × (Nat → Int32)} {m S : Mm} (h : RM m S) (w : WF S) {x : Int32} (ht : tpd S + 3 ≤ 64) : Y G M_mo_four (0, 0) 3 [some (.ref 153), some (.int x), some (.int (nI 16))] [] (LAY, m) (qm_ LAY (pN_ m (pshs x 3 S))) := by
  refine Y_iload_n 2 rfl (pc2 := 4) rfl rfl ?_
  refine Y_if_ltn 3 rfl (pc2 := 7) rfl (tgt := 39) (by decide) (by omega) ?_
  refine Y_aload_n 4 rfl (pc2 := 8) rfl rfl ?_
  refine Y_getR 5 rfl (pc2 := 11) rfl fl_mo_41 ly_mo (by decide) rfl rfl (by omega) ?_
  refine Y_aload_n 6 rfl (pc2 := 12) rfl rfl ?_
  refine Y_getI 7 rfl (pc2 := 15) rfl fl_mo_70 ly_mo (by decide) rfl ?_
  refine Y_top (h.2.2.trans w.tp.1) ?_
  refine Y_iload_n 8 rfl (pc2 := 16) rfl rfl ?_
  refine Y_iload_n 9 rfl (pc2 := 17) rfl rfl ?_
  refine Y_ishr 10 rfl (pc2 := 18) rfl ?_
  refine Y_sipush 11 rfl (pc2 := 21) rfl (v := nI 255) (by decide) ?_
  refine Y_iand 12 rfl (pc2 := 22) rfl ?_
  refine Y_iast 13 rfl (pc2 := 23) rfl ly_mo_tape rfl (by omega) (by decide) rfl ?_
  refine Y_aload_n 14 rfl (pc2 := 24) rfl rfl ?_
  refine Y_dup 15 rfl (pc2 := 25) rfl rfl ?_
  refine Y_getI 16 rfl (pc2 := 28) rfl fl_mo_70 ly_mo (by decide) rfl ?_
  refine Y_top ((uw_ne (by omega)).trans (h.2.2.trans w.tp.1)) ?_
  refine Y_iconst 17 rfl (pc2 := 29) rfl (v := nI 1) (by decide) ?_
  refine Y_iadd 18 rfl (pc2 := 30) rfl ?_
  refine Y_top (nI_add _ _) ?_
  refine Y_putI 19 rfl (pc2 := 33) rfl fl_mo_70 ly_mo (by decide) ⟨rfl, rfl⟩ ⟨_, _, _, rfl, rfl⟩ rfl ?_
  refine Y_iinc 20 rfl (pc2 := 36) rfl rfl rfl (ls2 := [some (.ref _), some (.int _), some (.int _)]) rfl ?_
  refine Y_goto 21 rfl (pc2 := 3) (by decide) ?_
  have hp : RM _ (psh S (mb x 2)) := RM_12 (RM_uw h (by decide))
  refine Y_ls (ls2 := [some (.ref 153), some (.int x), some (.int (nI 8))]) (by rw [show nI 16 + Int32.ofInt (-8) = nI 8 by decide]) ?_
  exact (FO_2 hp (WF_psh w (by omega) mb_iR) (by rw [psh_t (by omega)]; omega)).mono (fun v σ hq => ⟨hq.1, hq.2.1, hq.2.2.1, fun a ha => (hq.2.2.2 a ha).trans (funext fun j => by rw [uw_ne (by omega), uw_ne (by omega)])⟩)

set_option maxHeartbeats 400000 in
theorem FO_4 {G : Nat × (Nat → Int32)} {m S : Mm} (h : RM m S) (w : WF S) {x : Int32} (ht : tpd S + 4 ≤ 64) : Y G M_mo_four (0, 0) 3 [some (.ref 153), some (.int x), some (.int (nI 24))] [] (LAY, m) (qm_ LAY (pN_ m (pshs x 4 S))) := by
  refine Y_iload_n 2 rfl (pc2 := 4) rfl rfl ?_
  refine Y_if_ltn 3 rfl (pc2 := 7) rfl (tgt := 39) (by decide) (by omega) ?_
  refine Y_aload_n 4 rfl (pc2 := 8) rfl rfl ?_
  refine Y_getR 5 rfl (pc2 := 11) rfl fl_mo_41 ly_mo (by decide) rfl rfl (by omega) ?_
  refine Y_aload_n 6 rfl (pc2 := 12) rfl rfl ?_
  refine Y_getI 7 rfl (pc2 := 15) rfl fl_mo_70 ly_mo (by decide) rfl ?_
  refine Y_top (h.2.2.trans w.tp.1) ?_
  refine Y_iload_n 8 rfl (pc2 := 16) rfl rfl ?_
  refine Y_iload_n 9 rfl (pc2 := 17) rfl rfl ?_
  refine Y_ishr 10 rfl (pc2 := 18) rfl ?_
  refine Y_sipush 11 rfl (pc2 := 21) rfl (v := nI 255) (by decide) ?_
  refine Y_iand 12 rfl (pc2 := 22) rfl ?_
  refine Y_iast 13 rfl (pc2 := 23) rfl ly_mo_tape rfl (by omega) (by decide) rfl ?_
  refine Y_aload_n 14 rfl (pc2 := 24) rfl rfl ?_
  refine Y_dup 15 rfl (pc2 := 25) rfl rfl ?_
  refine Y_getI 16 rfl (pc2 := 28) rfl fl_mo_70 ly_mo (by decide) rfl ?_
  refine Y_top ((uw_ne (by omega)).trans (h.2.2.trans w.tp.1)) ?_
  refine Y_iconst 17 rfl (pc2 := 29) rfl (v := nI 1) (by decide) ?_
  refine Y_iadd 18 rfl (pc2 := 30) rfl ?_
  refine Y_top (nI_add _ _) ?_
  refine Y_putI 19 rfl (pc2 := 33) rfl fl_mo_70 ly_mo (by decide) ⟨rfl, rfl⟩ ⟨_, _, _, rfl, rfl⟩ rfl ?_
  refine Y_iinc 20 rfl (pc2 := 36) rfl rfl rfl (ls2 := [some (.ref _), some (.int _), some (.int _)]) rfl ?_
  refine Y_goto 21 rfl (pc2 := 3) (by decide) ?_
  have hp : RM _ (psh S (mb x 3)) := RM_12 (RM_uw h (by decide))
  refine Y_ls (ls2 := [some (.ref 153), some (.int x), some (.int (nI 16))]) (by rw [show nI 24 + Int32.ofInt (-8) = nI 16 by decide]) ?_
  exact (FO_3 hp (WF_psh w (by omega) mb_iR) (by rw [psh_t (by omega)]; omega)).mono (fun v σ hq => ⟨hq.1, hq.2.1, hq.2.2.1, fun a ha => (hq.2.2.2 a ha).trans (funext fun j => by rw [uw_ne (by omega), uw_ne (by omega)])⟩)

set_option maxHeartbeats 400000 in
theorem T_mo_four {G : Nat × (Nat → Int32)} {m : Mm} {S : Mm} (h : RM m S) (w : WF S) {x : Int32} (ht : tpd S + 4 ≤ 64) : Y G M_mo_four (0, 0) 0 (en_ M_mo_four [.ref (153), .int (x)]) [] (LAY, m) (qm_ LAY (pN_ m (pshs x 4 S))) := by
  change Y _ _ _ _ [some (.ref _), some (.int _), none] _ _ _
  refine Y_bipush 0 rfl (pc2 := 2) rfl (v := nI 24) (by decide) ?_
  refine Y_istore_n 1 rfl (pc2 := 3) rfl (Nat.le_of_ble_eq_true rfl) (ls2 := [some (.ref _), some (.int _), some (.int _)]) rfl ?_
  exact FO_4 h w ht

set_option maxHeartbeats 400000 in
theorem T_mo_feed {G : Nat × (Nat → Int32)} {m : Mm} {S : Mm} (h : RM m S) (w : WF S) {a b c : Int32} : Y G M_mo_feed (0, 0) 0 (en_ M_mo_feed [.ref (153), .int (a), .int (b), .int (c)]) [] (LAY, m) (qm_ LAY (pm_ (sp_feed S) m (st_feed S a b c))) := by
  change Y _ _ _ _ [some (.ref _), some (.int _), some (.int _), some (.int _)] _ _ _
  have ht := w.tp.2
  refine Y_aload_n 0 rfl (pc2 := 1) rfl rfl ?_
  refine Y_getI 1 rfl (pc2 := 4) rfl fl_mo_70 ly_mo (by decide) rfl ?_
  refine Y_top (h.2.2.trans w.tp.1) ?_
  refine Y_bipush 2 rfl (pc2 := 6) rfl (v := nI 12) (by decide) ?_
  refine Y_iadd 3 rfl (pc2 := 7) rfl ?_
  refine Y_top (nI_add _ _) ?_
  refine Y_bipush 4 rfl (pc2 := 9) rfl (v := nI 64) (by decide) ?_
  refine Y_icmp_len 5 rfl (pc2 := 12) rfl (tgt := 15) (by decide) (by omega) (by omega) (fun h9 => ?_) (fun h9 => ?_)
  · have w1 := (WF_pshs (x := a) 4 S w (by omega)).1
    have t1 := (WF_pshs (x := a) 4 S w (by omega)).2
    have w2 := (WF_pshs (x := b) 4 _ w1 (by omega)).1
    have t2 := (WF_pshs (x := b) 4 _ w1 (by omega)).2
    have t3 := (WF_pshs (x := c) 4 _ w2 (by omega)).2
    refine Y_aload_n 8 rfl (pc2 := 16) rfl rfl ?_
    refine Y_iload_n 9 rfl (pc2 := 17) rfl rfl ?_
    refine Y_cV 10 rfl (pc2 := 20) rfl ok_mo_four lk_mo_75 vi_mo_four ly_mo rfl (by decide) rfl (as := [.int _]) (rest := []) rfl rfl (T_mo_four h w (by omega)) ?_
    rintro _ m1 ⟨rfl, r1, f1⟩
    change Y _ _ _ _ _ [] _ _
    refine Y_aload_n 11 rfl (pc2 := 21) rfl rfl ?_
    refine Y_iload_n 12 rfl (pc2 := 22) rfl rfl ?_
    refine Y_cV 13 rfl (pc2 := 25) rfl ok_mo_four lk_mo_75 vi_mo_four ly_mo rfl (by decide) rfl (as := [.int _]) (rest := []) rfl rfl (T_mo_four r1 w1 (by omega)) ?_
    rintro _ m2 ⟨rfl, r2, f2⟩
    change Y _ _ _ _ _ [] _ _
    refine Y_aload_n 14 rfl (pc2 := 26) rfl rfl ?_
    refine Y_iload_n 15 rfl (pc2 := 27) rfl rfl ?_
    refine Y_cV 16 rfl (pc2 := 30) rfl ok_mo_four lk_mo_75 vi_mo_four ly_mo rfl (by decide) rfl (as := [.int _]) (rest := []) rfl rfl (T_mo_four r2 w2 (by omega)) ?_
    rintro _ m3 ⟨rfl, r3, f3⟩
    change Y _ _ _ _ _ [] _ _
    refine Y_aload_n 17 rfl (pc2 := 31) rfl rfl ?_
    refine Y_getI 18 rfl (pc2 := 34) rfl fl_mo_70 ly_mo (by decide) rfl ?_
    refine Y_top (r3.2.2.trans ((WF_pshs 4 _ w2 (by omega)).1.tp.1)) ?_
    refine Y_iret 19 rfl rfl rfl ⟨rfl, ?_⟩
    dsimp only
    exact ⟨by unfold sp_feed; rw [cI_t h9, t3, t2, t1], by unfold st_feed; rw [cI_t h9]; exact r3, fun q hq => (f3 q hq).trans ((f2 q hq).trans (f1 q hq))⟩
  · refine Y_ldc 6 rfl (pc2 := 14) rfl kc_mo_74 ?_
    refine Y_iret 7 rfl rfl rfl ⟨rfl, ?_⟩
    dsimp only
    exact pm_bad h (by unfold sp_feed; rw [cI_f h9]; rfl) (by unfold st_feed; rw [cI_f h9])

set_option maxHeartbeats 400000 in
theorem T_mo_part {G : Nat × (Nat → Int32)} {m : Mm} {S : Mm} (h : RM m S) (w : WF S) {x t l : Int32} : Y G M_mo_part (0, 0) 0 (en_ M_mo_part [.ref (153), .int (x), .int (t), .int (l)]) [] (LAY, m) (qm_ LAY (pm_ (sp_part S x t l) m (st_part S x t l))) := by
  change Y _ _ _ _ [some (.ref _), some (.int _), some (.int _), some (.int _)] _ _ _
  have hp := w.p.2
  refine Y_iload_n 0 rfl (pc2 := 1) rfl rfl ?_
  refine Y_cS 1 rfl (pc2 := 4) rfl ok_mo_isCircle lk_mo_66 vs_mo_isCircle (as := [.int _]) (rest := []) rfl rfl T_mo_isCircle ?_
  rintro _ _ ⟨rfl, rfl⟩
  change Y _ _ _ _ _ [.int _] _ _
  refine Y_if_eqb 2 rfl (pc2 := 7) rfl (tgt := 32) (by decide) (fun h4 => ?_) (fun h4 => ?_)
  · refine Y_ldc 16 rfl (pc2 := 34) rfl kc_mo_79 ?_
    refine Y_iret 17 rfl rfl rfl ⟨rfl, ?_⟩
    dsimp only
    first | exact pm_bad h (by unfold sp_part; rw [cI_f (fun e => h4 e.1)]; rfl) (by unfold st_part; rw [cI_f (fun e => h4 e.1.1)]) | exact pm_bad h (by unfold sp_part; rw [cI_f (fun e => h14 e.2.1)]; rfl) (by unfold st_part; rw [cI_f (fun e => h14 e.1.2.1)]) | exact pm_bad h (by unfold sp_part; rw [cI_f (fun e => e.2.2.elim h20 h29)]; rfl) (by unfold st_part; rw [cI_f (fun e => e.1.2.2.elim h20 h29)])
  · refine Y_iload_n 3 rfl (pc2 := 8) rfl rfl ?_
    refine Y_iconst 4 rfl (pc2 := 9) rfl (v := nI 1) (by decide) ?_
    refine Y_bipush 5 rfl (pc2 := 11) rfl (v := nI 9) (by decide) ?_
    refine Y_cS 6 rfl (pc2 := 14) rfl ok_mo_isIn lk_mo_62 vs_mo_isIn (as := [.int _, .int _, .int _]) (rest := []) rfl rfl T_mo_isIn ?_
    rintro _ _ ⟨rfl, rfl⟩
    change Y _ _ _ _ _ [.int _] _ _
    refine Y_if_eqb 7 rfl (pc2 := 17) rfl (tgt := 32) (by decide) (fun h14 => ?_) (fun h14 => ?_)
    · refine Y_ldc 16 rfl (pc2 := 34) rfl kc_mo_79 ?_
      refine Y_iret 17 rfl rfl rfl ⟨rfl, ?_⟩
      dsimp only
      first | exact pm_bad h (by unfold sp_part; rw [cI_f (fun e => h4 e.1)]; rfl) (by unfold st_part; rw [cI_f (fun e => h4 e.1.1)]) | exact pm_bad h (by unfold sp_part; rw [cI_f (fun e => h14 e.2.1)]; rfl) (by unfold st_part; rw [cI_f (fun e => h14 e.1.2.1)]) | exact pm_bad h (by unfold sp_part; rw [cI_f (fun e => e.2.2.elim h20 h29)]; rfl) (by unfold st_part; rw [cI_f (fun e => e.1.2.2.elim h20 h29)])
    · refine Y_iload_n 8 rfl (pc2 := 18) rfl rfl ?_
      refine Y_ldc 9 rfl (pc2 := 20) rfl kc_mo_112 ?_
      refine Y_icmp_eq 10 rfl (pc2 := 23) rfl (tgt := 35) (by decide) (fun h20 => ?_) (fun h20 => ?_)
      · have hC : paC x t l := ⟨h4, h14, by first | exact Or.inl h20 | exact Or.inr h29⟩
        refine Y_aload_n 18 rfl (pc2 := 36) rfl rfl ?_
        refine Y_getI 19 rfl (pc2 := 39) rfl fl_mo_146 ly_mo (by decide) rfl ?_
        refine Y_top (h.2.1.trans w.p.1) ?_
        refine Y_bipush 20 rfl (pc2 := 41) rfl (v := nI 16) (by decide) ?_
        refine Y_icmp_nen 21 rfl (pc2 := 44) rfl (tgt := 47) (by decide) (by omega) (by omega) (fun h41 => ?_) (fun h41 => ?_)
        · refine Y_aload_n 24 rfl (pc2 := 48) rfl rfl ?_
          refine Y_getR 25 rfl (pc2 := 51) rfl fl_mo_29 ly_mo (by decide) rfl rfl (by omega) ?_
          refine Y_aload_n 26 rfl (pc2 := 52) rfl rfl ?_
          refine Y_getI 27 rfl (pc2 := 55) rfl fl_mo_146 ly_mo (by decide) rfl ?_
          refine Y_top (h.2.1.trans w.p.1) ?_
          refine Y_iload_n 28 rfl (pc2 := 56) rfl rfl ?_
          refine Y_iast 29 rfl (pc2 := 57) rfl ly_mo_pCircle rfl (by omega) (by decide) rfl ?_
          refine Y_aload_n 30 rfl (pc2 := 58) rfl rfl ?_
          refine Y_getR 31 rfl (pc2 := 61) rfl fl_mo_32 ly_mo (by decide) rfl rfl (by omega) ?_
          refine Y_aload_n 32 rfl (pc2 := 62) rfl rfl ?_
          refine Y_getI 33 rfl (pc2 := 65) rfl fl_mo_146 ly_mo (by decide) rfl ?_
          refine Y_top ((uw_ne (by omega)).trans ((h.2.1.trans w.p.1))) ?_
          refine Y_iload_n 34 rfl (pc2 := 66) rfl rfl ?_
          refine Y_iast 35 rfl (pc2 := 67) rfl ly_mo_pTimes rfl (by omega) (by decide) rfl ?_
          refine Y_aload_n 36 rfl (pc2 := 68) rfl rfl ?_
          refine Y_getR 37 rfl (pc2 := 71) rfl fl_mo_35 ly_mo (by decide) rfl rfl (by omega) ?_
          refine Y_aload_n 38 rfl (pc2 := 72) rfl rfl ?_
          refine Y_getI 39 rfl (pc2 := 75) rfl fl_mo_146 ly_mo (by decide) rfl ?_
          refine Y_top ((uw_ne (by omega)).trans ((uw_ne (by omega)).trans ((h.2.1.trans w.p.1)))) ?_
          refine Y_iload_n 40 rfl (pc2 := 76) rfl rfl ?_
          refine Y_ldc 41 rfl (pc2 := 78) rfl kc_mo_112 ?_
          refine Y_icmp_ne 42 rfl (pc2 := 81) rfl (tgt := 85) (by decide) (fun h78 => ?_) (fun h78 => ?_)
          · refine Y_iload_n 45 rfl (pc2 := 86) rfl rfl ?_
            refine Y_iast 46 rfl (pc2 := 87) rfl ly_mo_pLevel rfl (by omega) (by decide) rfl ?_
            refine Y_aload_n 47 rfl (pc2 := 88) rfl rfl ?_
            refine Y_dup 48 rfl (pc2 := 89) rfl rfl ?_
            refine Y_getI 49 rfl (pc2 := 92) rfl fl_mo_146 ly_mo (by decide) rfl ?_
            refine Y_top ((uw_ne (by omega)).trans ((uw_ne (by omega)).trans ((uw_ne (by omega)).trans ((h.2.1.trans w.p.1))))) ?_
            refine Y_iconst 50 rfl (pc2 := 93) rfl (v := nI 1) (by decide) ?_
            refine Y_iadd 51 rfl (pc2 := 94) rfl ?_
            refine Y_top (nI_add _ _) ?_
            refine Y_putI 52 rfl (pc2 := 97) rfl fl_mo_146 ly_mo (by decide) ⟨rfl, rfl⟩ ⟨_, _, _, rfl, rfl⟩ rfl ?_
            refine Y_aload_n 53 rfl (pc2 := 98) rfl rfl ?_
            refine Y_getI 54 rfl (pc2 := 101) rfl fl_mo_146 ly_mo (by decide) rfl ?_
            refine Y_top (uw_same) ?_
            refine Y_iret 55 rfl rfl rfl ⟨rfl, ?_⟩
            dsimp only
            refine ⟨by unfold sp_part; rw [cI_t hC, if_neg (by omega)], ?_, fun a ha => funext fun q => by rw [uw_ne (by omega), uw_ne (by omega), uw_ne (by omega), uw_ne (by omega)]⟩
            unfold st_part
            rw [cI_t ⟨hC, by omega⟩]
            unfold lvM
            first
              | (rw [if_pos (show l = NONE_ from by first | exact h78 | exact Classical.byContradiction h78)]; exact RM_6 (RM_uw (RM_uw (RM_uw h (by decide)) (by decide)) (by decide)))
              | (rw [if_neg (show ¬ l = NONE_ from h78)]; exact RM_6 (RM_uw (RM_uw (RM_uw h (by decide)) (by decide)) (by decide)))
          · refine Y_iconst 43 rfl (pc2 := 82) rfl (v := -1) (by decide) ?_
            refine Y_goto 44 rfl (pc2 := 86) (by decide) ?_
            refine Y_iast 46 rfl (pc2 := 87) rfl ly_mo_pLevel rfl (by omega) (by decide) rfl ?_
            refine Y_aload_n 47 rfl (pc2 := 88) rfl rfl ?_
            refine Y_dup 48 rfl (pc2 := 89) rfl rfl ?_
            refine Y_getI 49 rfl (pc2 := 92) rfl fl_mo_146 ly_mo (by decide) rfl ?_
            refine Y_top ((uw_ne (by omega)).trans ((uw_ne (by omega)).trans ((uw_ne (by omega)).trans ((h.2.1.trans w.p.1))))) ?_
            refine Y_iconst 50 rfl (pc2 := 93) rfl (v := nI 1) (by decide) ?_
            refine Y_iadd 51 rfl (pc2 := 94) rfl ?_
            refine Y_top (nI_add _ _) ?_
            refine Y_putI 52 rfl (pc2 := 97) rfl fl_mo_146 ly_mo (by decide) ⟨rfl, rfl⟩ ⟨_, _, _, rfl, rfl⟩ rfl ?_
            refine Y_aload_n 53 rfl (pc2 := 98) rfl rfl ?_
            refine Y_getI 54 rfl (pc2 := 101) rfl fl_mo_146 ly_mo (by decide) rfl ?_
            refine Y_top (uw_same) ?_
            refine Y_iret 55 rfl rfl rfl ⟨rfl, ?_⟩
            dsimp only
            refine ⟨by unfold sp_part; rw [cI_t hC, if_neg (by omega)], ?_, fun a ha => funext fun q => by rw [uw_ne (by omega), uw_ne (by omega), uw_ne (by omega), uw_ne (by omega)]⟩
            unfold st_part
            rw [cI_t ⟨hC, by omega⟩]
            unfold lvM
            first
              | (rw [if_pos (show l = NONE_ from by first | exact h78 | exact Classical.byContradiction h78)]; exact RM_6 (RM_uw (RM_uw (RM_uw h (by decide)) (by decide)) (by decide)))
              | (rw [if_neg (show ¬ l = NONE_ from h78)]; exact RM_6 (RM_uw (RM_uw (RM_uw h (by decide)) (by decide)) (by decide)))
        · refine Y_ldc 22 rfl (pc2 := 46) rfl kc_mo_74 ?_
          refine Y_iret 23 rfl rfl rfl ⟨rfl, ?_⟩
          dsimp only
          exact pm_bad h (by unfold sp_part; rw [cI_t hC, if_pos (by omega)]; rfl) (by unfold st_part; rw [cI_f (fun e => e.2 (by omega))])
      · refine Y_iload_n 11 rfl (pc2 := 24) rfl rfl ?_
        refine Y_iconst 12 rfl (pc2 := 25) rfl (v := nI 0) (by decide) ?_
        refine Y_iconst 13 rfl (pc2 := 26) rfl (v := nI 3) (by decide) ?_
        refine Y_cS 14 rfl (pc2 := 29) rfl ok_mo_isIn lk_mo_62 vs_mo_isIn (as := [.int _, .int _, .int _]) (rest := []) rfl rfl (T_mo_isIn0 (by omega)) ?_
        rintro _ _ ⟨rfl, rfl⟩
        change Y _ _ _ _ _ [.int _] _ _
        refine Y_if_neb 15 rfl (pc2 := 32) rfl (tgt := 35) (by decide) (fun h29 => ?_) (fun h29 => ?_)
        · have hC : paC x t l := ⟨h4, h14, by first | exact Or.inl h20 | exact Or.inr h29⟩
          refine Y_aload_n 18 rfl (pc2 := 36) rfl rfl ?_
          refine Y_getI 19 rfl (pc2 := 39) rfl fl_mo_146 ly_mo (by decide) rfl ?_
          refine Y_top (h.2.1.trans w.p.1) ?_
          refine Y_bipush 20 rfl (pc2 := 41) rfl (v := nI 16) (by decide) ?_
          refine Y_icmp_nen 21 rfl (pc2 := 44) rfl (tgt := 47) (by decide) (by omega) (by omega) (fun h41 => ?_) (fun h41 => ?_)
          · refine Y_aload_n 24 rfl (pc2 := 48) rfl rfl ?_
            refine Y_getR 25 rfl (pc2 := 51) rfl fl_mo_29 ly_mo (by decide) rfl rfl (by omega) ?_
            refine Y_aload_n 26 rfl (pc2 := 52) rfl rfl ?_
            refine Y_getI 27 rfl (pc2 := 55) rfl fl_mo_146 ly_mo (by decide) rfl ?_
            refine Y_top (h.2.1.trans w.p.1) ?_
            refine Y_iload_n 28 rfl (pc2 := 56) rfl rfl ?_
            refine Y_iast 29 rfl (pc2 := 57) rfl ly_mo_pCircle rfl (by omega) (by decide) rfl ?_
            refine Y_aload_n 30 rfl (pc2 := 58) rfl rfl ?_
            refine Y_getR 31 rfl (pc2 := 61) rfl fl_mo_32 ly_mo (by decide) rfl rfl (by omega) ?_
            refine Y_aload_n 32 rfl (pc2 := 62) rfl rfl ?_
            refine Y_getI 33 rfl (pc2 := 65) rfl fl_mo_146 ly_mo (by decide) rfl ?_
            refine Y_top ((uw_ne (by omega)).trans ((h.2.1.trans w.p.1))) ?_
            refine Y_iload_n 34 rfl (pc2 := 66) rfl rfl ?_
            refine Y_iast 35 rfl (pc2 := 67) rfl ly_mo_pTimes rfl (by omega) (by decide) rfl ?_
            refine Y_aload_n 36 rfl (pc2 := 68) rfl rfl ?_
            refine Y_getR 37 rfl (pc2 := 71) rfl fl_mo_35 ly_mo (by decide) rfl rfl (by omega) ?_
            refine Y_aload_n 38 rfl (pc2 := 72) rfl rfl ?_
            refine Y_getI 39 rfl (pc2 := 75) rfl fl_mo_146 ly_mo (by decide) rfl ?_
            refine Y_top ((uw_ne (by omega)).trans ((uw_ne (by omega)).trans ((h.2.1.trans w.p.1)))) ?_
            refine Y_iload_n 40 rfl (pc2 := 76) rfl rfl ?_
            refine Y_ldc 41 rfl (pc2 := 78) rfl kc_mo_112 ?_
            refine Y_icmp_ne 42 rfl (pc2 := 81) rfl (tgt := 85) (by decide) (fun h78 => ?_) (fun h78 => ?_)
            · refine Y_iload_n 45 rfl (pc2 := 86) rfl rfl ?_
              refine Y_iast 46 rfl (pc2 := 87) rfl ly_mo_pLevel rfl (by omega) (by decide) rfl ?_
              refine Y_aload_n 47 rfl (pc2 := 88) rfl rfl ?_
              refine Y_dup 48 rfl (pc2 := 89) rfl rfl ?_
              refine Y_getI 49 rfl (pc2 := 92) rfl fl_mo_146 ly_mo (by decide) rfl ?_
              refine Y_top ((uw_ne (by omega)).trans ((uw_ne (by omega)).trans ((uw_ne (by omega)).trans ((h.2.1.trans w.p.1))))) ?_
              refine Y_iconst 50 rfl (pc2 := 93) rfl (v := nI 1) (by decide) ?_
              refine Y_iadd 51 rfl (pc2 := 94) rfl ?_
              refine Y_top (nI_add _ _) ?_
              refine Y_putI 52 rfl (pc2 := 97) rfl fl_mo_146 ly_mo (by decide) ⟨rfl, rfl⟩ ⟨_, _, _, rfl, rfl⟩ rfl ?_
              refine Y_aload_n 53 rfl (pc2 := 98) rfl rfl ?_
              refine Y_getI 54 rfl (pc2 := 101) rfl fl_mo_146 ly_mo (by decide) rfl ?_
              refine Y_top (uw_same) ?_
              refine Y_iret 55 rfl rfl rfl ⟨rfl, ?_⟩
              dsimp only
              refine ⟨by unfold sp_part; rw [cI_t hC, if_neg (by omega)], ?_, fun a ha => funext fun q => by rw [uw_ne (by omega), uw_ne (by omega), uw_ne (by omega), uw_ne (by omega)]⟩
              unfold st_part
              rw [cI_t ⟨hC, by omega⟩]
              unfold lvM
              first
                | (rw [if_pos (show l = NONE_ from by first | exact h78 | exact Classical.byContradiction h78)]; exact RM_6 (RM_uw (RM_uw (RM_uw h (by decide)) (by decide)) (by decide)))
                | (rw [if_neg (show ¬ l = NONE_ from h78)]; exact RM_6 (RM_uw (RM_uw (RM_uw h (by decide)) (by decide)) (by decide)))
            · refine Y_iconst 43 rfl (pc2 := 82) rfl (v := -1) (by decide) ?_
              refine Y_goto 44 rfl (pc2 := 86) (by decide) ?_
              refine Y_iast 46 rfl (pc2 := 87) rfl ly_mo_pLevel rfl (by omega) (by decide) rfl ?_
              refine Y_aload_n 47 rfl (pc2 := 88) rfl rfl ?_
              refine Y_dup 48 rfl (pc2 := 89) rfl rfl ?_
              refine Y_getI 49 rfl (pc2 := 92) rfl fl_mo_146 ly_mo (by decide) rfl ?_
              refine Y_top ((uw_ne (by omega)).trans ((uw_ne (by omega)).trans ((uw_ne (by omega)).trans ((h.2.1.trans w.p.1))))) ?_
              refine Y_iconst 50 rfl (pc2 := 93) rfl (v := nI 1) (by decide) ?_
              refine Y_iadd 51 rfl (pc2 := 94) rfl ?_
              refine Y_top (nI_add _ _) ?_
              refine Y_putI 52 rfl (pc2 := 97) rfl fl_mo_146 ly_mo (by decide) ⟨rfl, rfl⟩ ⟨_, _, _, rfl, rfl⟩ rfl ?_
              refine Y_aload_n 53 rfl (pc2 := 98) rfl rfl ?_
              refine Y_getI 54 rfl (pc2 := 101) rfl fl_mo_146 ly_mo (by decide) rfl ?_
              refine Y_top (uw_same) ?_
              refine Y_iret 55 rfl rfl rfl ⟨rfl, ?_⟩
              dsimp only
              refine ⟨by unfold sp_part; rw [cI_t hC, if_neg (by omega)], ?_, fun a ha => funext fun q => by rw [uw_ne (by omega), uw_ne (by omega), uw_ne (by omega), uw_ne (by omega)]⟩
              unfold st_part
              rw [cI_t ⟨hC, by omega⟩]
              unfold lvM
              first
                | (rw [if_pos (show l = NONE_ from by first | exact h78 | exact Classical.byContradiction h78)]; exact RM_6 (RM_uw (RM_uw (RM_uw h (by decide)) (by decide)) (by decide)))
                | (rw [if_neg (show ¬ l = NONE_ from h78)]; exact RM_6 (RM_uw (RM_uw (RM_uw h (by decide)) (by decide)) (by decide)))
          · refine Y_ldc 22 rfl (pc2 := 46) rfl kc_mo_74 ?_
            refine Y_iret 23 rfl rfl rfl ⟨rfl, ?_⟩
            dsimp only
            exact pm_bad h (by unfold sp_part; rw [cI_t hC, if_pos (by omega)]; rfl) (by unfold st_part; rw [cI_f (fun e => e.2 (by omega))])
        · refine Y_ldc 16 rfl (pc2 := 34) rfl kc_mo_79 ?_
          refine Y_iret 17 rfl rfl rfl ⟨rfl, ?_⟩
          dsimp only
          first | exact pm_bad h (by unfold sp_part; rw [cI_f (fun e => h4 e.1)]; rfl) (by unfold st_part; rw [cI_f (fun e => h4 e.1.1)]) | exact pm_bad h (by unfold sp_part; rw [cI_f (fun e => h14 e.2.1)]; rfl) (by unfold st_part; rw [cI_f (fun e => h14 e.1.2.1)]) | exact pm_bad h (by unfold sp_part; rw [cI_f (fun e => e.2.2.elim h20 h29)]; rfl) (by unfold st_part; rw [cI_f (fun e => e.1.2.2.elim h20 h29)])

set_option maxHeartbeats 400000 in
theorem L_signalMany {G : Nat × (Nat → Int32)} {m : Mm} {S : Mm} (h : RM m S) (w : WF S) : ∀ i, i ≤ 144 → Y G M_mo_signalMany (0, 0) 4 [some (.ref (153)), some (.int (nI (cnt (fun r => ¬ S 163 r < 0) i))), some (.int (nI i))] [] (LAY, m) (qm_ LAY (pu_ (nI (sigs S)) m)) := by
  refine ind_ (fun i hi ih => ?_)
  refine Y_iload_n 4 rfl (pc2 := 5) rfl rfl ?_
  refine Y_sipush 5 rfl (pc2 := 8) rfl (v := nI 144) (by decide) ?_
  refine Y_icmp_gen 6 rfl (pc2 := 11) rfl (tgt := 34) (by decide) (by omega) (by omega) (fun h8 => ?_) (fun h8 => ?_)
  · refine Y_iload_n 20 rfl (pc2 := 35) rfl rfl ?_
    refine Y_iret 21 rfl rfl rfl ⟨rfl, ?_⟩
    dsimp only
    exact pu_i (by rw [show i = 144 by omega]; rfl)
  · refine Y_iload_n 7 rfl (pc2 := 12) rfl rfl ?_
    refine Y_aload_n 8 rfl (pc2 := 13) rfl rfl ?_
    refine Y_getR 9 rfl (pc2 := 16) rfl fl_mo_38 ly_mo (by decide) rfl rfl (by omega) ?_
    refine Y_iload_n 10 rfl (pc2 := 17) rfl rfl ?_
    refine Y_iald 11 rfl (pc2 := 18) rfl ly_mo_signals rfl (by omega) (by decide) ?_
    refine Y_top (h.e (by decide) (by decide)) ?_
    refine Y_if_ge 12 rfl (pc2 := 21) rfl (tgt := 25) (by decide) (fun h18 => ?_) (fun h18 => ?_)
    · refine Y_iconst 15 rfl (pc2 := 26) rfl (v := nI 1) (by decide) ?_
      refine Y_iadd 16 rfl (pc2 := 27) rfl ?_
      refine Y_top (nI_add _ _) ?_
      refine Y_istore_n 17 rfl (pc2 := 28) rfl (Nat.le_of_ble_eq_true rfl) (ls2 := [some (.ref _), some (.int _), some (.int _)]) rfl ?_
      refine Y_iinc 18 rfl (pc2 := 31) rfl rfl (nI_inc _ 1) (ls2 := [some (.ref _), some (.int _), some (.int _)]) rfl ?_
      refine Y_goto 19 rfl (pc2 := 4) (by decide) ?_
      first | exact Y_ls (by rw [cnt_t (f := (fun r => ¬ S 163 r < 0)) (Int32.not_lt.mpr h18)]) (ih (i + 1) (by omega) (by omega)) | exact Y_ls (by rw [cnt_f (f := (fun r => ¬ S 163 r < 0)) (fun e => e (Int32.not_le.mp h18)), Nat.add_zero]) (ih (i + 1) (by omega) (by omega))
    · refine Y_iconst 13 rfl (pc2 := 22) rfl (v := nI 0) (by decide) ?_
      refine Y_goto 14 rfl (pc2 := 26) (by decide) ?_
      refine Y_iadd 16 rfl (pc2 := 27) rfl ?_
      refine Y_top (nI_add _ _) ?_
      refine Y_istore_n 17 rfl (pc2 := 28) rfl (Nat.le_of_ble_eq_true rfl) (ls2 := [some (.ref _), some (.int _), some (.int _)]) rfl ?_
      refine Y_iinc 18 rfl (pc2 := 31) rfl rfl (nI_inc _ 1) (ls2 := [some (.ref _), some (.int _), some (.int _)]) rfl ?_
      refine Y_goto 19 rfl (pc2 := 4) (by decide) ?_
      first | exact Y_ls (by rw [cnt_t (f := (fun r => ¬ S 163 r < 0)) (Int32.not_lt.mpr h18)]) (ih (i + 1) (by omega) (by omega)) | exact Y_ls (by rw [cnt_f (f := (fun r => ¬ S 163 r < 0)) (fun e => e (Int32.not_le.mp h18)), Nat.add_zero]) (ih (i + 1) (by omega) (by omega))

set_option maxHeartbeats 400000 in
theorem T_mo_signalMany {G : Nat × (Nat → Int32)} {m : Mm} {S : Mm} (h : RM m S) (w : WF S) : Y G M_mo_signalMany (0, 0) 0 (en_ M_mo_signalMany [.ref (153)]) [] (LAY, m) (qm_ LAY (pu_ (nI (sigs S)) m)) := by
  change Y _ _ _ _ [some (.ref _), none, none] _ _ _
  refine Y_iconst 0 rfl (pc2 := 1) rfl (v := nI 0) (by decide) ?_
  refine Y_istore_n 1 rfl (pc2 := 2) rfl (Nat.le_of_ble_eq_true rfl) (ls2 := [some (.ref _), some (.int _), none]) rfl ?_
  refine Y_iconst 2 rfl (pc2 := 3) rfl (v := nI 0) (by decide) ?_
  refine Y_istore_n 3 rfl (pc2 := 4) rfl (Nat.le_of_ble_eq_true rfl) (ls2 := [some (.ref _), some (.int _), some (.int _)]) rfl ?_
  exact L_signalMany h w 0 (Nat.zero_le _)

set_option maxHeartbeats 400000 in
theorem T_mo_signal {G : Nat × (Nat → Int32)} {m : Mm} {S : Mm} (h : RM m S) (w : WF S) {x l : Int32} : Y G M_mo_signal (0, 0) 0 (en_ M_mo_signal [.ref (153), .int (x), .int (l)]) [] (LAY, m) (qm_ LAY (pm_ (sp_signal S x l) m (st_signal S x l))) := by
  change Y _ _ _ _ [some (.ref _), some (.int _), some (.int _), none] _ _ _
  have hs20 := w.sg
  refine Y_iload_n 0 rfl (pc2 := 1) rfl rfl ?_
  refine Y_iconst 1 rfl (pc2 := 2) rfl (v := nI 0) (by decide) ?_
  refine Y_sipush 2 rfl (pc2 := 5) rfl (v := nI 143) (by decide) ?_
  refine Y_cS 3 rfl (pc2 := 8) rfl ok_mo_isIn lk_mo_62 vs_mo_isIn (as := [.int _, .int _, .int _]) (rest := []) rfl rfl (T_mo_isIn0 (by omega)) ?_
  rintro _ _ ⟨rfl, rfl⟩
  change Y _ _ _ _ _ [.int _] _ _
  refine Y_if_eqb 4 rfl (pc2 := 11) rfl (tgt := 26) (by decide) (fun h8 => ?_) (fun h8 => ?_)
  · refine Y_ldc 13 rfl (pc2 := 28) rfl kc_mo_79 ?_
    refine Y_iret 14 rfl rfl rfl ⟨rfl, ?_⟩
    dsimp only
    first | exact pm_bad h (by unfold sp_signal; rw [cI_f (fun e => h8 e.1)]; rfl) (by unfold st_signal; rw [cI_f (fun e => h8 e.1.1)]) | exact pm_bad h (by unfold sp_signal; rw [cI_f (fun e => e.2.elim h14 h23)]; rfl) (by unfold st_signal; rw [cI_f (fun e => e.1.2.elim h14 h23)])
  · refine Y_iload_n 5 rfl (pc2 := 12) rfl rfl ?_
    refine Y_ldc 6 rfl (pc2 := 14) rfl kc_mo_112 ?_
    refine Y_icmp_eq 7 rfl (pc2 := 17) rfl (tgt := 29) (by decide) (fun h14 => ?_) (fun h14 => ?_)
    · obtain ⟨r, hr, rfl⟩ := h8
      have hv : lvO l := by first | exact Or.inl h14 | exact Or.inr h23
      have hC : siC (nI r) l := ⟨⟨r, hr, rfl⟩, hv⟩
      refine Y_aload_n 15 rfl (pc2 := 30) rfl rfl ?_
      refine Y_getR 16 rfl (pc2 := 33) rfl fl_mo_38 ly_mo (by decide) rfl rfl (by omega) ?_
      refine Y_iload_n 17 rfl (pc2 := 34) rfl rfl ?_
      refine Y_iald 18 rfl (pc2 := 35) rfl ly_mo_signals rfl (by omega) (by decide) ?_
      refine Y_top (h.e (by decide) (by decide)) ?_
      refine Y_istore_n 19 rfl (pc2 := 36) rfl (Nat.le_of_ble_eq_true rfl) (ls2 := [some (.ref _), some (.int _), some (.int _), some (.int _)]) rfl ?_
      refine Y_iload_n 20 rfl (pc2 := 37) rfl rfl ?_
      refine Y_ldc 21 rfl (pc2 := 39) rfl kc_mo_112 ?_
      refine Y_icmp_eq 22 rfl (pc2 := 42) rfl (tgt := 58) (by decide) (fun h39 => ?_) (fun h39 => ?_)
      · refine Y_aload_n 31 rfl (pc2 := 59) rfl rfl ?_
        refine Y_getR 32 rfl (pc2 := 62) rfl fl_mo_38 ly_mo (by decide) rfl rfl (by omega) ?_
        refine Y_iload_n 33 rfl (pc2 := 63) rfl rfl ?_
        refine Y_iload_n 34 rfl (pc2 := 64) rfl rfl ?_
        refine Y_ldc 35 rfl (pc2 := 66) rfl kc_mo_112 ?_
        refine Y_icmp_ne 36 rfl (pc2 := 69) rfl (tgt := 73) (by decide) (fun h66 => ?_) (fun h66 => ?_)
        · refine Y_iload_n 39 rfl (pc2 := 74) rfl rfl ?_
          refine Y_iast 40 rfl (pc2 := 75) rfl ly_mo_signals rfl (by omega) (by decide) rfl ?_
          refine Y_iload_n 41 rfl (pc2 := 76) rfl rfl ?_
          refine Y_cS 42 rfl (pc2 := 79) rfl ok_mo_orNone lk_mo_117 vs_mo_orNone (as := [.int _]) (rest := []) rfl rfl T_mo_orNone ?_
          rintro _ _ ⟨rfl, rfl⟩
          change Y _ _ _ _ _ [.int _] _ _
          refine Y_iret 43 rfl rfl rfl ⟨rfl, ?_⟩
          dsimp only
          have hF : ¬ siF S (nI r) l := by
            rintro ⟨e1, e2, e3⟩
            rw [nv_nI (by omega)] at e1
            first
              | exact e2 h39
              | exact absurd e1 (Int32.not_lt.mpr h43)
              | omega
          refine ⟨by unfold sp_signal; rw [cI_t hC, cI_f hF, nv_nI (by omega)]; rfl, ?_, fun a ha => funext fun q => by rw [uw_ne (by omega)]⟩
          unfold st_signal
          rw [cI_t ⟨hC, hF⟩, nv_nI (by omega)]
          unfold lvM
          first
            | (rw [if_pos (show l = NONE_ from by first | exact h66 | exact Classical.byContradiction h66)]; exact RM_uw h (by decide))
            | (rw [if_neg (show ¬ l = NONE_ from h66)]; exact RM_uw h (by decide))
        · refine Y_iconst 37 rfl (pc2 := 70) rfl (v := -1) (by decide) ?_
          refine Y_goto 38 rfl (pc2 := 74) (by decide) ?_
          refine Y_iast 40 rfl (pc2 := 75) rfl ly_mo_signals rfl (by omega) (by decide) rfl ?_
          refine Y_iload_n 41 rfl (pc2 := 76) rfl rfl ?_
          refine Y_cS 42 rfl (pc2 := 79) rfl ok_mo_orNone lk_mo_117 vs_mo_orNone (as := [.int _]) (rest := []) rfl rfl T_mo_orNone ?_
          rintro _ _ ⟨rfl, rfl⟩
          change Y _ _ _ _ _ [.int _] _ _
          refine Y_iret 43 rfl rfl rfl ⟨rfl, ?_⟩
          dsimp only
          have hF : ¬ siF S (nI r) l := by
            rintro ⟨e1, e2, e3⟩
            rw [nv_nI (by omega)] at e1
            first
              | exact e2 h39
              | exact absurd e1 (Int32.not_lt.mpr h43)
              | omega
          refine ⟨by unfold sp_signal; rw [cI_t hC, cI_f hF, nv_nI (by omega)]; rfl, ?_, fun a ha => funext fun q => by rw [uw_ne (by omega)]⟩
          unfold st_signal
          rw [cI_t ⟨hC, hF⟩, nv_nI (by omega)]
          unfold lvM
          first
            | (rw [if_pos (show l = NONE_ from by first | exact h66 | exact Classical.byContradiction h66)]; exact RM_uw h (by decide))
            | (rw [if_neg (show ¬ l = NONE_ from h66)]; exact RM_uw h (by decide))
      · refine Y_iload_n 23 rfl (pc2 := 43) rfl rfl ?_
        refine Y_if_ge 24 rfl (pc2 := 46) rfl (tgt := 58) (by decide) (fun h43 => ?_) (fun h43 => ?_)
        · refine Y_aload_n 31 rfl (pc2 := 59) rfl rfl ?_
          refine Y_getR 32 rfl (pc2 := 62) rfl fl_mo_38 ly_mo (by decide) rfl rfl (by omega) ?_
          refine Y_iload_n 33 rfl (pc2 := 63) rfl rfl ?_
          refine Y_iload_n 34 rfl (pc2 := 64) rfl rfl ?_
          refine Y_ldc 35 rfl (pc2 := 66) rfl kc_mo_112 ?_
          refine Y_icmp_ne 36 rfl (pc2 := 69) rfl (tgt := 73) (by decide) (fun h66 => ?_) (fun h66 => ?_)
          · refine Y_iload_n 39 rfl (pc2 := 74) rfl rfl ?_
            refine Y_iast 40 rfl (pc2 := 75) rfl ly_mo_signals rfl (by omega) (by decide) rfl ?_
            refine Y_iload_n 41 rfl (pc2 := 76) rfl rfl ?_
            refine Y_cS 42 rfl (pc2 := 79) rfl ok_mo_orNone lk_mo_117 vs_mo_orNone (as := [.int _]) (rest := []) rfl rfl T_mo_orNone ?_
            rintro _ _ ⟨rfl, rfl⟩
            change Y _ _ _ _ _ [.int _] _ _
            refine Y_iret 43 rfl rfl rfl ⟨rfl, ?_⟩
            dsimp only
            have hF : ¬ siF S (nI r) l := by
              rintro ⟨e1, e2, e3⟩
              rw [nv_nI (by omega)] at e1
              first
                | exact e2 h39
                | exact absurd e1 (Int32.not_lt.mpr h43)
                | omega
            refine ⟨by unfold sp_signal; rw [cI_t hC, cI_f hF, nv_nI (by omega)]; rfl, ?_, fun a ha => funext fun q => by rw [uw_ne (by omega)]⟩
            unfold st_signal
            rw [cI_t ⟨hC, hF⟩, nv_nI (by omega)]
            unfold lvM
            first
              | (rw [if_pos (show l = NONE_ from by first | exact h66 | exact Classical.byContradiction h66)]; exact RM_uw h (by decide))
              | (rw [if_neg (show ¬ l = NONE_ from h66)]; exact RM_uw h (by decide))
          · refine Y_iconst 37 rfl (pc2 := 70) rfl (v := -1) (by decide) ?_
            refine Y_goto 38 rfl (pc2 := 74) (by decide) ?_
            refine Y_iast 40 rfl (pc2 := 75) rfl ly_mo_signals rfl (by omega) (by decide) rfl ?_
            refine Y_iload_n 41 rfl (pc2 := 76) rfl rfl ?_
            refine Y_cS 42 rfl (pc2 := 79) rfl ok_mo_orNone lk_mo_117 vs_mo_orNone (as := [.int _]) (rest := []) rfl rfl T_mo_orNone ?_
            rintro _ _ ⟨rfl, rfl⟩
            change Y _ _ _ _ _ [.int _] _ _
            refine Y_iret 43 rfl rfl rfl ⟨rfl, ?_⟩
            dsimp only
            have hF : ¬ siF S (nI r) l := by
              rintro ⟨e1, e2, e3⟩
              rw [nv_nI (by omega)] at e1
              first
                | exact e2 h39
                | exact absurd e1 (Int32.not_lt.mpr h43)
                | omega
            refine ⟨by unfold sp_signal; rw [cI_t hC, cI_f hF, nv_nI (by omega)]; rfl, ?_, fun a ha => funext fun q => by rw [uw_ne (by omega)]⟩
            unfold st_signal
            rw [cI_t ⟨hC, hF⟩, nv_nI (by omega)]
            unfold lvM
            first
              | (rw [if_pos (show l = NONE_ from by first | exact h66 | exact Classical.byContradiction h66)]; exact RM_uw h (by decide))
              | (rw [if_neg (show ¬ l = NONE_ from h66)]; exact RM_uw h (by decide))
        · refine Y_aload_n 25 rfl (pc2 := 47) rfl rfl ?_
          refine Y_cV 26 rfl (pc2 := 50) rfl ok_mo_signalMany lk_mo_149 vi_mo_signalMany ly_mo rfl (by decide) rfl (as := []) (rest := []) rfl rfl (T_mo_signalMany h w) ?_
          rintro _ _ ⟨rfl, rfl⟩
          change Y _ _ _ _ _ [.int _] _ _
          refine Y_bipush 27 rfl (pc2 := 52) rfl (v := nI 20) (by decide) ?_
          refine Y_icmp_nen 28 rfl (pc2 := 55) rfl (tgt := 58) (by decide) (by omega) (by omega) (fun h52 => ?_) (fun h52 => ?_)
          · refine Y_aload_n 31 rfl (pc2 := 59) rfl rfl ?_
            refine Y_getR 32 rfl (pc2 := 62) rfl fl_mo_38 ly_mo (by decide) rfl rfl (by omega) ?_
            refine Y_iload_n 33 rfl (pc2 := 63) rfl rfl ?_
            refine Y_iload_n 34 rfl (pc2 := 64) rfl rfl ?_
            refine Y_ldc 35 rfl (pc2 := 66) rfl kc_mo_112 ?_
            refine Y_icmp_ne 36 rfl (pc2 := 69) rfl (tgt := 73) (by decide) (fun h66 => ?_) (fun h66 => ?_)
            · refine Y_iload_n 39 rfl (pc2 := 74) rfl rfl ?_
              refine Y_iast 40 rfl (pc2 := 75) rfl ly_mo_signals rfl (by omega) (by decide) rfl ?_
              refine Y_iload_n 41 rfl (pc2 := 76) rfl rfl ?_
              refine Y_cS 42 rfl (pc2 := 79) rfl ok_mo_orNone lk_mo_117 vs_mo_orNone (as := [.int _]) (rest := []) rfl rfl T_mo_orNone ?_
              rintro _ _ ⟨rfl, rfl⟩
              change Y _ _ _ _ _ [.int _] _ _
              refine Y_iret 43 rfl rfl rfl ⟨rfl, ?_⟩
              dsimp only
              have hF : ¬ siF S (nI r) l := by
                rintro ⟨e1, e2, e3⟩
                rw [nv_nI (by omega)] at e1
                first
                  | exact e2 h39
                  | exact absurd e1 (Int32.not_lt.mpr h43)
                  | omega
              refine ⟨by unfold sp_signal; rw [cI_t hC, cI_f hF, nv_nI (by omega)]; rfl, ?_, fun a ha => funext fun q => by rw [uw_ne (by omega)]⟩
              unfold st_signal
              rw [cI_t ⟨hC, hF⟩, nv_nI (by omega)]
              unfold lvM
              first
                | (rw [if_pos (show l = NONE_ from by first | exact h66 | exact Classical.byContradiction h66)]; exact RM_uw h (by decide))
                | (rw [if_neg (show ¬ l = NONE_ from h66)]; exact RM_uw h (by decide))
            · refine Y_iconst 37 rfl (pc2 := 70) rfl (v := -1) (by decide) ?_
              refine Y_goto 38 rfl (pc2 := 74) (by decide) ?_
              refine Y_iast 40 rfl (pc2 := 75) rfl ly_mo_signals rfl (by omega) (by decide) rfl ?_
              refine Y_iload_n 41 rfl (pc2 := 76) rfl rfl ?_
              refine Y_cS 42 rfl (pc2 := 79) rfl ok_mo_orNone lk_mo_117 vs_mo_orNone (as := [.int _]) (rest := []) rfl rfl T_mo_orNone ?_
              rintro _ _ ⟨rfl, rfl⟩
              change Y _ _ _ _ _ [.int _] _ _
              refine Y_iret 43 rfl rfl rfl ⟨rfl, ?_⟩
              dsimp only
              have hF : ¬ siF S (nI r) l := by
                rintro ⟨e1, e2, e3⟩
                rw [nv_nI (by omega)] at e1
                first
                  | exact e2 h39
                  | exact absurd e1 (Int32.not_lt.mpr h43)
                  | omega
              refine ⟨by unfold sp_signal; rw [cI_t hC, cI_f hF, nv_nI (by omega)]; rfl, ?_, fun a ha => funext fun q => by rw [uw_ne (by omega)]⟩
              unfold st_signal
              rw [cI_t ⟨hC, hF⟩, nv_nI (by omega)]
              unfold lvM
              first
                | (rw [if_pos (show l = NONE_ from by first | exact h66 | exact Classical.byContradiction h66)]; exact RM_uw h (by decide))
                | (rw [if_neg (show ¬ l = NONE_ from h66)]; exact RM_uw h (by decide))
          · refine Y_ldc 29 rfl (pc2 := 57) rfl kc_mo_74 ?_
            refine Y_iret 30 rfl rfl rfl ⟨rfl, ?_⟩
            dsimp only
            have hF : siF S (nI r) l := ⟨by rw [nv_nI (by omega)]; exact Int32.not_le.mp h43, h39, by omega⟩
            exact pm_bad h (by unfold sp_signal; rw [cI_t hC, cI_t hF]; rfl) (by unfold st_signal; rw [cI_f (fun e => e.2 hF)])
    · refine Y_iload_n 8 rfl (pc2 := 18) rfl rfl ?_
      refine Y_iconst 9 rfl (pc2 := 19) rfl (v := nI 0) (by decide) ?_
      refine Y_iconst 10 rfl (pc2 := 20) rfl (v := nI 3) (by decide) ?_
      refine Y_cS 11 rfl (pc2 := 23) rfl ok_mo_isIn lk_mo_62 vs_mo_isIn (as := [.int _, .int _, .int _]) (rest := []) rfl rfl (T_mo_isIn0 (by omega)) ?_
      rintro _ _ ⟨rfl, rfl⟩
      change Y _ _ _ _ _ [.int _] _ _
      refine Y_if_neb 12 rfl (pc2 := 26) rfl (tgt := 29) (by decide) (fun h23 => ?_) (fun h23 => ?_)
      · obtain ⟨r, hr, rfl⟩ := h8
        have hv : lvO l := by first | exact Or.inl h14 | exact Or.inr h23
        have hC : siC (nI r) l := ⟨⟨r, hr, rfl⟩, hv⟩
        refine Y_aload_n 15 rfl (pc2 := 30) rfl rfl ?_
        refine Y_getR 16 rfl (pc2 := 33) rfl fl_mo_38 ly_mo (by decide) rfl rfl (by omega) ?_
        refine Y_iload_n 17 rfl (pc2 := 34) rfl rfl ?_
        refine Y_iald 18 rfl (pc2 := 35) rfl ly_mo_signals rfl (by omega) (by decide) ?_
        refine Y_top (h.e (by decide) (by decide)) ?_
        refine Y_istore_n 19 rfl (pc2 := 36) rfl (Nat.le_of_ble_eq_true rfl) (ls2 := [some (.ref _), some (.int _), some (.int _), some (.int _)]) rfl ?_
        refine Y_iload_n 20 rfl (pc2 := 37) rfl rfl ?_
        refine Y_ldc 21 rfl (pc2 := 39) rfl kc_mo_112 ?_
        refine Y_icmp_eq 22 rfl (pc2 := 42) rfl (tgt := 58) (by decide) (fun h39 => ?_) (fun h39 => ?_)
        · refine Y_aload_n 31 rfl (pc2 := 59) rfl rfl ?_
          refine Y_getR 32 rfl (pc2 := 62) rfl fl_mo_38 ly_mo (by decide) rfl rfl (by omega) ?_
          refine Y_iload_n 33 rfl (pc2 := 63) rfl rfl ?_
          refine Y_iload_n 34 rfl (pc2 := 64) rfl rfl ?_
          refine Y_ldc 35 rfl (pc2 := 66) rfl kc_mo_112 ?_
          refine Y_icmp_ne 36 rfl (pc2 := 69) rfl (tgt := 73) (by decide) (fun h66 => ?_) (fun h66 => ?_)
          · refine Y_iload_n 39 rfl (pc2 := 74) rfl rfl ?_
            refine Y_iast 40 rfl (pc2 := 75) rfl ly_mo_signals rfl (by omega) (by decide) rfl ?_
            refine Y_iload_n 41 rfl (pc2 := 76) rfl rfl ?_
            refine Y_cS 42 rfl (pc2 := 79) rfl ok_mo_orNone lk_mo_117 vs_mo_orNone (as := [.int _]) (rest := []) rfl rfl T_mo_orNone ?_
            rintro _ _ ⟨rfl, rfl⟩
            change Y _ _ _ _ _ [.int _] _ _
            refine Y_iret 43 rfl rfl rfl ⟨rfl, ?_⟩
            dsimp only
            have hF : ¬ siF S (nI r) l := by
              rintro ⟨e1, e2, e3⟩
              rw [nv_nI (by omega)] at e1
              first
                | exact e2 h39
                | exact absurd e1 (Int32.not_lt.mpr h43)
                | omega
            refine ⟨by unfold sp_signal; rw [cI_t hC, cI_f hF, nv_nI (by omega)]; rfl, ?_, fun a ha => funext fun q => by rw [uw_ne (by omega)]⟩
            unfold st_signal
            rw [cI_t ⟨hC, hF⟩, nv_nI (by omega)]
            unfold lvM
            first
              | (rw [if_pos (show l = NONE_ from by first | exact h66 | exact Classical.byContradiction h66)]; exact RM_uw h (by decide))
              | (rw [if_neg (show ¬ l = NONE_ from h66)]; exact RM_uw h (by decide))
          · refine Y_iconst 37 rfl (pc2 := 70) rfl (v := -1) (by decide) ?_
            refine Y_goto 38 rfl (pc2 := 74) (by decide) ?_
            refine Y_iast 40 rfl (pc2 := 75) rfl ly_mo_signals rfl (by omega) (by decide) rfl ?_
            refine Y_iload_n 41 rfl (pc2 := 76) rfl rfl ?_
            refine Y_cS 42 rfl (pc2 := 79) rfl ok_mo_orNone lk_mo_117 vs_mo_orNone (as := [.int _]) (rest := []) rfl rfl T_mo_orNone ?_
            rintro _ _ ⟨rfl, rfl⟩
            change Y _ _ _ _ _ [.int _] _ _
            refine Y_iret 43 rfl rfl rfl ⟨rfl, ?_⟩
            dsimp only
            have hF : ¬ siF S (nI r) l := by
              rintro ⟨e1, e2, e3⟩
              rw [nv_nI (by omega)] at e1
              first
                | exact e2 h39
                | exact absurd e1 (Int32.not_lt.mpr h43)
                | omega
            refine ⟨by unfold sp_signal; rw [cI_t hC, cI_f hF, nv_nI (by omega)]; rfl, ?_, fun a ha => funext fun q => by rw [uw_ne (by omega)]⟩
            unfold st_signal
            rw [cI_t ⟨hC, hF⟩, nv_nI (by omega)]
            unfold lvM
            first
              | (rw [if_pos (show l = NONE_ from by first | exact h66 | exact Classical.byContradiction h66)]; exact RM_uw h (by decide))
              | (rw [if_neg (show ¬ l = NONE_ from h66)]; exact RM_uw h (by decide))
        · refine Y_iload_n 23 rfl (pc2 := 43) rfl rfl ?_
          refine Y_if_ge 24 rfl (pc2 := 46) rfl (tgt := 58) (by decide) (fun h43 => ?_) (fun h43 => ?_)
          · refine Y_aload_n 31 rfl (pc2 := 59) rfl rfl ?_
            refine Y_getR 32 rfl (pc2 := 62) rfl fl_mo_38 ly_mo (by decide) rfl rfl (by omega) ?_
            refine Y_iload_n 33 rfl (pc2 := 63) rfl rfl ?_
            refine Y_iload_n 34 rfl (pc2 := 64) rfl rfl ?_
            refine Y_ldc 35 rfl (pc2 := 66) rfl kc_mo_112 ?_
            refine Y_icmp_ne 36 rfl (pc2 := 69) rfl (tgt := 73) (by decide) (fun h66 => ?_) (fun h66 => ?_)
            · refine Y_iload_n 39 rfl (pc2 := 74) rfl rfl ?_
              refine Y_iast 40 rfl (pc2 := 75) rfl ly_mo_signals rfl (by omega) (by decide) rfl ?_
              refine Y_iload_n 41 rfl (pc2 := 76) rfl rfl ?_
              refine Y_cS 42 rfl (pc2 := 79) rfl ok_mo_orNone lk_mo_117 vs_mo_orNone (as := [.int _]) (rest := []) rfl rfl T_mo_orNone ?_
              rintro _ _ ⟨rfl, rfl⟩
              change Y _ _ _ _ _ [.int _] _ _
              refine Y_iret 43 rfl rfl rfl ⟨rfl, ?_⟩
              dsimp only
              have hF : ¬ siF S (nI r) l := by
                rintro ⟨e1, e2, e3⟩
                rw [nv_nI (by omega)] at e1
                first
                  | exact e2 h39
                  | exact absurd e1 (Int32.not_lt.mpr h43)
                  | omega
              refine ⟨by unfold sp_signal; rw [cI_t hC, cI_f hF, nv_nI (by omega)]; rfl, ?_, fun a ha => funext fun q => by rw [uw_ne (by omega)]⟩
              unfold st_signal
              rw [cI_t ⟨hC, hF⟩, nv_nI (by omega)]
              unfold lvM
              first
                | (rw [if_pos (show l = NONE_ from by first | exact h66 | exact Classical.byContradiction h66)]; exact RM_uw h (by decide))
                | (rw [if_neg (show ¬ l = NONE_ from h66)]; exact RM_uw h (by decide))
            · refine Y_iconst 37 rfl (pc2 := 70) rfl (v := -1) (by decide) ?_
              refine Y_goto 38 rfl (pc2 := 74) (by decide) ?_
              refine Y_iast 40 rfl (pc2 := 75) rfl ly_mo_signals rfl (by omega) (by decide) rfl ?_
              refine Y_iload_n 41 rfl (pc2 := 76) rfl rfl ?_
              refine Y_cS 42 rfl (pc2 := 79) rfl ok_mo_orNone lk_mo_117 vs_mo_orNone (as := [.int _]) (rest := []) rfl rfl T_mo_orNone ?_
              rintro _ _ ⟨rfl, rfl⟩
              change Y _ _ _ _ _ [.int _] _ _
              refine Y_iret 43 rfl rfl rfl ⟨rfl, ?_⟩
              dsimp only
              have hF : ¬ siF S (nI r) l := by
                rintro ⟨e1, e2, e3⟩
                rw [nv_nI (by omega)] at e1
                first
                  | exact e2 h39
                  | exact absurd e1 (Int32.not_lt.mpr h43)
                  | omega
              refine ⟨by unfold sp_signal; rw [cI_t hC, cI_f hF, nv_nI (by omega)]; rfl, ?_, fun a ha => funext fun q => by rw [uw_ne (by omega)]⟩
              unfold st_signal
              rw [cI_t ⟨hC, hF⟩, nv_nI (by omega)]
              unfold lvM
              first
                | (rw [if_pos (show l = NONE_ from by first | exact h66 | exact Classical.byContradiction h66)]; exact RM_uw h (by decide))
                | (rw [if_neg (show ¬ l = NONE_ from h66)]; exact RM_uw h (by decide))
          · refine Y_aload_n 25 rfl (pc2 := 47) rfl rfl ?_
            refine Y_cV 26 rfl (pc2 := 50) rfl ok_mo_signalMany lk_mo_149 vi_mo_signalMany ly_mo rfl (by decide) rfl (as := []) (rest := []) rfl rfl (T_mo_signalMany h w) ?_
            rintro _ _ ⟨rfl, rfl⟩
            change Y _ _ _ _ _ [.int _] _ _
            refine Y_bipush 27 rfl (pc2 := 52) rfl (v := nI 20) (by decide) ?_
            refine Y_icmp_nen 28 rfl (pc2 := 55) rfl (tgt := 58) (by decide) (by omega) (by omega) (fun h52 => ?_) (fun h52 => ?_)
            · refine Y_aload_n 31 rfl (pc2 := 59) rfl rfl ?_
              refine Y_getR 32 rfl (pc2 := 62) rfl fl_mo_38 ly_mo (by decide) rfl rfl (by omega) ?_
              refine Y_iload_n 33 rfl (pc2 := 63) rfl rfl ?_
              refine Y_iload_n 34 rfl (pc2 := 64) rfl rfl ?_
              refine Y_ldc 35 rfl (pc2 := 66) rfl kc_mo_112 ?_
              refine Y_icmp_ne 36 rfl (pc2 := 69) rfl (tgt := 73) (by decide) (fun h66 => ?_) (fun h66 => ?_)
              · refine Y_iload_n 39 rfl (pc2 := 74) rfl rfl ?_
                refine Y_iast 40 rfl (pc2 := 75) rfl ly_mo_signals rfl (by omega) (by decide) rfl ?_
                refine Y_iload_n 41 rfl (pc2 := 76) rfl rfl ?_
                refine Y_cS 42 rfl (pc2 := 79) rfl ok_mo_orNone lk_mo_117 vs_mo_orNone (as := [.int _]) (rest := []) rfl rfl T_mo_orNone ?_
                rintro _ _ ⟨rfl, rfl⟩
                change Y _ _ _ _ _ [.int _] _ _
                refine Y_iret 43 rfl rfl rfl ⟨rfl, ?_⟩
                dsimp only
                have hF : ¬ siF S (nI r) l := by
                  rintro ⟨e1, e2, e3⟩
                  rw [nv_nI (by omega)] at e1
                  first
                    | exact e2 h39
                    | exact absurd e1 (Int32.not_lt.mpr h43)
                    | omega
                refine ⟨by unfold sp_signal; rw [cI_t hC, cI_f hF, nv_nI (by omega)]; rfl, ?_, fun a ha => funext fun q => by rw [uw_ne (by omega)]⟩
                unfold st_signal
                rw [cI_t ⟨hC, hF⟩, nv_nI (by omega)]
                unfold lvM
                first
                  | (rw [if_pos (show l = NONE_ from by first | exact h66 | exact Classical.byContradiction h66)]; exact RM_uw h (by decide))
                  | (rw [if_neg (show ¬ l = NONE_ from h66)]; exact RM_uw h (by decide))
              · refine Y_iconst 37 rfl (pc2 := 70) rfl (v := -1) (by decide) ?_
                refine Y_goto 38 rfl (pc2 := 74) (by decide) ?_
                refine Y_iast 40 rfl (pc2 := 75) rfl ly_mo_signals rfl (by omega) (by decide) rfl ?_
                refine Y_iload_n 41 rfl (pc2 := 76) rfl rfl ?_
                refine Y_cS 42 rfl (pc2 := 79) rfl ok_mo_orNone lk_mo_117 vs_mo_orNone (as := [.int _]) (rest := []) rfl rfl T_mo_orNone ?_
                rintro _ _ ⟨rfl, rfl⟩
                change Y _ _ _ _ _ [.int _] _ _
                refine Y_iret 43 rfl rfl rfl ⟨rfl, ?_⟩
                dsimp only
                have hF : ¬ siF S (nI r) l := by
                  rintro ⟨e1, e2, e3⟩
                  rw [nv_nI (by omega)] at e1
                  first
                    | exact e2 h39
                    | exact absurd e1 (Int32.not_lt.mpr h43)
                    | omega
                refine ⟨by unfold sp_signal; rw [cI_t hC, cI_f hF, nv_nI (by omega)]; rfl, ?_, fun a ha => funext fun q => by rw [uw_ne (by omega)]⟩
                unfold st_signal
                rw [cI_t ⟨hC, hF⟩, nv_nI (by omega)]
                unfold lvM
                first
                  | (rw [if_pos (show l = NONE_ from by first | exact h66 | exact Classical.byContradiction h66)]; exact RM_uw h (by decide))
                  | (rw [if_neg (show ¬ l = NONE_ from h66)]; exact RM_uw h (by decide))
            · refine Y_ldc 29 rfl (pc2 := 57) rfl kc_mo_74 ?_
              refine Y_iret 30 rfl rfl rfl ⟨rfl, ?_⟩
              dsimp only
              have hF : siF S (nI r) l := ⟨by rw [nv_nI (by omega)]; exact Int32.not_le.mp h43, h39, by omega⟩
              exact pm_bad h (by unfold sp_signal; rw [cI_t hC, cI_t hF]; rfl) (by unfold st_signal; rw [cI_f (fun e => e.2 hF)])
      · refine Y_ldc 13 rfl (pc2 := 28) rfl kc_mo_79 ?_
        refine Y_iret 14 rfl rfl rfl ⟨rfl, ?_⟩
        dsimp only
        first | exact pm_bad h (by unfold sp_signal; rw [cI_f (fun e => h8 e.1)]; rfl) (by unfold st_signal; rw [cI_f (fun e => h8 e.1.1)]) | exact pm_bad h (by unfold sp_signal; rw [cI_f (fun e => e.2.elim h14 h23)]; rfl) (by unfold st_signal; rw [cI_f (fun e => e.1.2.elim h14 h23)])

set_option maxHeartbeats 400000 in
theorem L_drop {G : Nat × (Nat → Int32)} {m : Mm} {S : Mm} (h : RM m S) (w : WF S) {x : Int32} : ∀ i, i ≤ 144 → Y G M_mo_drop (0, 0) 12 [some (.ref 153), some (.int x), some (.int (nI i))] [] (LAY, ur_ (uw_ m 153 6 (nI 0)) 163 (flr (uw_ m 153 6 (nI 0) 163) i (-1))) (qm_ LAY (pm_ x m (st_drop S))) := by
  refine ind_ (fun i hi ih => ?_)
  refine Y_iload_n 8 rfl (pc2 := 13) rfl rfl ?_
  refine Y_sipush 9 rfl (pc2 := 16) rfl (v := nI 144) (by decide) ?_
  refine Y_icmp_gen 10 rfl (pc2 := 19) rfl (tgt := 32) (by decide) (by omega) (by omega) (fun h16 => ?_) (fun h16 => ?_)
  · refine Y_iload_n 18 rfl (pc2 := 33) rfl rfl ?_
    refine Y_iret 19 rfl rfl rfl ⟨rfl, ?_⟩
    dsimp only
    refine ⟨rfl, ?_, fun a ha => by rw [ur_ne (by omega)]; funext k; rw [uw_ne (by omega)]⟩
    have e : uw_ m 153 6 (nI 0) 163 = S 163 := by funext k; rw [uw_ne (by omega)]; exact h.e (by decide) (by decide)
    rw [e, show i = 144 by omega]
    exact RM_ur (RM_6 h) (by decide)
  · refine Y_aload_n 11 rfl (pc2 := 20) rfl rfl ?_
    refine Y_getR 12 rfl (pc2 := 23) rfl fl_mo_38 ly_mo (by decide) rfl rfl (by omega) ?_
    refine Y_iload_n 13 rfl (pc2 := 24) rfl rfl ?_
    refine Y_iconst 14 rfl (pc2 := 25) rfl (v := -1) (by decide) ?_
    refine Y_iast 15 rfl (pc2 := 26) rfl ly_mo_signals rfl (by omega) (by decide) rfl ?_
    refine Y_iinc 16 rfl (pc2 := 29) rfl rfl (nI_inc _ 1) (ls2 := [some (.ref _), some (.int _), some (.int _)]) rfl ?_
    refine Y_goto 17 rfl (pc2 := 12) (by decide) ?_
    exact Y_mem flr_s (ih (i + 1) (by omega) (by omega))

set_option maxHeartbeats 400000 in
theorem T_mo_drop {G : Nat × (Nat → Int32)} {m : Mm} {S : Mm} (h : RM m S) (w : WF S) : Y G M_mo_drop (0, 0) 0 (en_ M_mo_drop [.ref (153)]) [] (LAY, m) (qm_ LAY (pm_ (S 153 6) m (st_drop S))) := by
  change Y _ _ _ _ [some (.ref _), none, none] _ _ _
  refine Y_aload_n 0 rfl (pc2 := 1) rfl rfl ?_
  refine Y_getI 1 rfl (pc2 := 4) rfl fl_mo_146 ly_mo (by decide) rfl ?_
  refine Y_top (h.2.1) ?_
  refine Y_istore_n 2 rfl (pc2 := 5) rfl (Nat.le_of_ble_eq_true rfl) (ls2 := [some (.ref _), some (.int _), none]) rfl ?_
  refine Y_aload_n 3 rfl (pc2 := 6) rfl rfl ?_
  refine Y_iconst 4 rfl (pc2 := 7) rfl (v := nI 0) (by decide) ?_
  refine Y_putI 5 rfl (pc2 := 10) rfl fl_mo_146 ly_mo (by decide) ⟨rfl, rfl⟩ ⟨_, _, _, rfl, rfl⟩ rfl ?_
  refine Y_iconst 6 rfl (pc2 := 11) rfl (v := nI 0) (by decide) ?_
  refine Y_istore_n 7 rfl (pc2 := 12) rfl (Nat.le_of_ble_eq_true rfl) (ls2 := [some (.ref _), some (.int _), some (.int _)]) rfl ?_
  exact Y_mem flr_0 (L_drop h w 0 (Nat.zero_le _))

def wri (row : Nat → Int32) (b0 n : Nat) (f : Nat → Int32) : Nat → Int32 := fun k => if b0 ≤ k ∧ k < b0 + n then f (k - b0) else row k
set_option maxHeartbeats 400000 in
theorem wri_s {m : Mm} {a b0 i : Nat} {f : Nat → Int32} : uw_ (ur_ m a (wri (m a) b0 i f)) a (b0 + i) (f i) = ur_ m a (wri (m a) b0 (i + 1) f) := by
  funext b k
  by_cases hb : b = a
  · subst hb
    by_cases hk : k = b0 + i
    · subst hk
      rw [uw_same]
      simp only [ur_, wri, if_true]
      rw [if_pos (by omega), show b0 + i - b0 = i by omega]
    · rw [uw_ne (by omega)]
      simp only [ur_, wri, if_true]
      by_cases h1 : b0 ≤ k ∧ k < b0 + i
      · rw [if_pos h1, if_pos (by omega)]
      · rw [if_neg h1, if_neg (by omega)]
  · rw [uw_ne (by omega)]
    simp [ur_, hb]
set_option maxHeartbeats 400000 in
theorem wri_0 {m : Mm} {a b0 : Nat} {f : Nat → Int32} : m = ur_ m a (wri (m a) b0 0 f) := by
  funext b k
  by_cases hb : b = a
  · subst hb
    simp only [ur_, wri, if_true]
    rw [if_neg (by omega)]
  · simp [ur_, hb]

set_option maxHeartbeats 400000 in
theorem L_sheet {G : Nat × (Nat → Int32)} {m : Mm} {S : Mm} (h : RM m S) (w : WF S) {s n : Nat} (hs : s < 2) (hn : n ≤ 16) : ∀ i, i ≤ n → Y G M_mo_sheet (0, 0) 32 [some (.ref 153), some (.int (nI s)), some (.int (nI n)), some (.int (nI i))] [] (LAY, ur_ (uw_ m 165 s (nI n)) 166 (wri (uw_ m 165 s (nI n) 166) (16 * s) i (fun _ => nI 0))) (qm_ LAY (pm_ (nI n) m (ur_ (uw_ S 165 s (nI n)) 166 (wri (S 166) (16 * s) n (fun _ => nI 0))))) := by
  refine ind_ (fun i hi ih => ?_)
  refine Y_iload_n 19 rfl (pc2 := 33) rfl rfl ?_
  refine Y_iload_n 20 rfl (pc2 := 34) rfl rfl ?_
  refine Y_icmp_gen 21 rfl (pc2 := 37) rfl (tgt := 55) (by decide) (by omega) (by omega) (fun h34 => ?_) (fun h34 => ?_)
  · refine Y_iload_n 33 rfl (pc2 := 56) rfl rfl ?_
    refine Y_iret 34 rfl rfl rfl ⟨rfl, ?_⟩
    dsimp only
    refine ⟨rfl, ?_, fun a ha => by rw [ur_ne (by omega)]; funext k; rw [uw_ne (by omega)]⟩
    have e : uw_ m 165 s (nI n) 166 = S 166 := by funext k; rw [uw_ne (by omega)]; exact h.e (by decide) (by decide)
    rw [e, show i = n by omega]
    exact RM_ur (RM_uw h (by decide)) (by decide)
  · refine Y_aload_n 22 rfl (pc2 := 38) rfl rfl ?_
    refine Y_getR 23 rfl (pc2 := 41) rfl fl_mo_47 ly_mo (by decide) rfl rfl (by omega) ?_
    refine Y_bipush 24 rfl (pc2 := 43) rfl (v := nI 16) (by decide) ?_
    refine Y_iload_n 25 rfl (pc2 := 44) rfl rfl ?_
    refine Y_imul 26 rfl (pc2 := 45) rfl ?_
    refine Y_top (nI_mul _ _) ?_
    refine Y_iload_n 27 rfl (pc2 := 46) rfl rfl ?_
    refine Y_iadd 28 rfl (pc2 := 47) rfl ?_
    refine Y_top (nI_add _ _) ?_
    refine Y_iconst 29 rfl (pc2 := 48) rfl (v := nI 0) (by decide) ?_
    refine Y_iast 30 rfl (pc2 := 49) rfl ly_mo_numbers rfl (by omega) (by decide) rfl ?_
    refine Y_iinc 31 rfl (pc2 := 52) rfl rfl (nI_inc _ 1) (ls2 := [some (.ref _), some (.int _), some (.int _), some (.int _)]) rfl ?_
    refine Y_goto 32 rfl (pc2 := 32) (by decide) ?_
    exact Y_mem (wri_s (f := fun _ => nI 0)) (ih (i + 1) (by omega) (by omega))

set_option maxHeartbeats 400000 in
theorem T_mo_sheet {G : Nat × (Nat → Int32)} {m : Mm} {S : Mm} (h : RM m S) (w : WF S) {x n : Int32} : Y G M_mo_sheet (0, 0) 0 (en_ M_mo_sheet [.ref (153), .int (x), .int (n)]) [] (LAY, m) (qm_ LAY (pm_ (sp_sheet x n) m (st_sheet S x n))) := by
  change Y _ _ _ _ [some (.ref _), some (.int _), some (.int _), none] _ _ _
  have hI := iR_le (x := n) (n := 16) (by omega)
  refine Y_iload_n 0 rfl (pc2 := 1) rfl rfl ?_
  refine Y_cS 1 rfl (pc2 := 4) rfl ok_mo_isSheet lk_mo_134 vs_mo_isSheet (as := [.int _]) (rest := []) rfl rfl T_mo_isSheet ?_
  rintro _ _ ⟨rfl, rfl⟩
  change Y _ _ _ _ _ [.int _] _ _
  refine Y_if_eqb 2 rfl (pc2 := 7) rfl (tgt := 13) (by decide) (fun h4 => ?_) (fun h4 => ?_)
  · refine Y_ldc 6 rfl (pc2 := 15) rfl kc_mo_79 ?_
    refine Y_iret 7 rfl rfl rfl ⟨rfl, ?_⟩
    dsimp only
    first | exact pm_bad h (by unfold sp_sheet; rw [cI_f (fun e => h4 e.1)]; rfl) (by unfold st_sheet; rw [cI_f (fun e => h4 e.1)]) | exact pm_bad h (by unfold sp_sheet; rw [cI_f (fun e => h10 e.2)]; rfl) (by unfold st_sheet; rw [cI_f (fun e => h10 (hI.mp e.2).2)])
  · obtain ⟨s, hs, rfl⟩ := h4
    refine Y_iload_n 3 rfl (pc2 := 8) rfl rfl ?_
    refine Y_bipush 4 rfl (pc2 := 10) rfl (v := nI 16) (by decide) ?_
    refine Y_icmp_le 5 rfl (pc2 := 13) rfl (tgt := 16) (by decide) (fun h10 => ?_) (fun h10 => ?_)
    · refine Y_iload_n 8 rfl (pc2 := 17) rfl rfl ?_
      refine Y_if_ge 9 rfl (pc2 := 20) rfl (tgt := 23) (by decide) (fun h17 => ?_) (fun h17 => ?_)
      · have hN : iR n 17 := hI.mpr ⟨Int32.not_lt.mpr h17, h10⟩
        obtain ⟨k, hk, rfl⟩ := hN
        refine Y_aload_n 12 rfl (pc2 := 24) rfl rfl ?_
        refine Y_getR 13 rfl (pc2 := 27) rfl fl_mo_44 ly_mo (by decide) rfl rfl (by omega) ?_
        refine Y_iload_n 14 rfl (pc2 := 28) rfl rfl ?_
        refine Y_iload_n 15 rfl (pc2 := 29) rfl rfl ?_
        refine Y_iast 16 rfl (pc2 := 30) rfl ly_mo_places rfl (by omega) (by decide) rfl ?_
        refine Y_iconst 17 rfl (pc2 := 31) rfl (v := nI 0) (by decide) ?_
        refine Y_istore_n 18 rfl (pc2 := 32) rfl (Nat.le_of_ble_eq_true rfl) (ls2 := [some (.ref _), some (.int _), some (.int _), some (.int _)]) rfl ?_
        have e1 : sp_sheet (nI s) (nI k) = nI k := by unfold sp_sheet; rw [cI_t ⟨⟨s, hs, rfl⟩, h10⟩, if_neg (Int32.not_lt.mpr h17)]
        have e2 : st_sheet S (nI s) (nI k) = ur_ (uw_ S 165 s (nI k)) 166 (wri (S 166) (16 * s) k (fun _ => nI 0)) := by
          unfold st_sheet
          rw [cI_t ⟨⟨s, hs, rfl⟩, ⟨k, hk, rfl⟩⟩, nv_nI (k := s) (by omega), nv_nI (k := k) (by omega)]
          rfl
        rw [e1, e2]
        exact Y_mem (wri_0 (b0 := 16 * s) (f := fun _ => nI 0)) (L_sheet h w hs (by omega) 0 (Nat.zero_le _))
      · refine Y_ldc 10 rfl (pc2 := 22) rfl kc_mo_190 ?_
        refine Y_iret 11 rfl rfl rfl ⟨rfl, ?_⟩
        dsimp only
        exact pm_bad h (by unfold sp_sheet; rw [cI_t ⟨⟨s, hs, rfl⟩, h10⟩, if_pos (Int32.not_le.mp h17)]; rfl) (by unfold st_sheet; rw [cI_f (fun e => (hI.mp e.2).1 (Int32.not_le.mp h17))])
    · refine Y_ldc 6 rfl (pc2 := 15) rfl kc_mo_79 ?_
      refine Y_iret 7 rfl rfl rfl ⟨rfl, ?_⟩
      dsimp only
      first | exact pm_bad h (by unfold sp_sheet; rw [cI_f (fun e => h4 e.1)]; rfl) (by unfold st_sheet; rw [cI_f (fun e => h4 e.1)]) | exact pm_bad h (by unfold sp_sheet; rw [cI_f (fun e => h10 e.2)]; rfl) (by unfold st_sheet; rw [cI_f (fun e => h10 (hI.mp e.2).2)])

set_option maxHeartbeats 400000 in
theorem pl_neg {S : Mm} (w : WF S) {s : Nat} (hs : s < 2) : S 165 s < 0 ↔ S 165 s = -1 := oR_neg (by decide) (w.pl s hs)

set_option maxHeartbeats 400000 in
theorem T_mo_mark {G : Nat × (Nat → Int32)} {m : Mm} {S : Mm} (h : RM m S) (w : WF S) {x p v : Int32} : Y G M_mo_mark (0, 0) 0 (en_ M_mo_mark [.ref (153), .int (x), .int (p), .int (v)]) [] (LAY, m) (qm_ LAY (pm_ (sp_mark S x p) m (st_mark S x p v))) := by
  change Y _ _ _ _ [some (.ref _), some (.int _), some (.int _), some (.int _), none] _ _ _
  refine Y_iload_n 0 rfl (pc2 := 1) rfl rfl ?_
  refine Y_cS 1 rfl (pc2 := 4) rfl ok_mo_isSheet lk_mo_134 vs_mo_isSheet (as := [.int _]) (rest := []) rfl rfl T_mo_isSheet ?_
  rintro _ _ ⟨rfl, rfl⟩
  change Y _ _ _ _ _ [.int _] _ _
  refine Y_if_neb 2 rfl (pc2 := 7) rfl (tgt := 10) (by decide) (fun h4 => ?_) (fun h4 => ?_)
  · obtain ⟨s, hs, rfl⟩ := h4
    have hne := pl_neg w hs
    refine Y_aload_n 5 rfl (pc2 := 11) rfl rfl ?_
    refine Y_getR 6 rfl (pc2 := 14) rfl fl_mo_44 ly_mo (by decide) rfl rfl (by omega) ?_
    refine Y_iload_n 7 rfl (pc2 := 15) rfl rfl ?_
    refine Y_iald 8 rfl (pc2 := 16) rfl ly_mo_places rfl (by omega) (by decide) ?_
    refine Y_top (h.e (by decide) (by decide)) ?_
    refine Y_if_ge 9 rfl (pc2 := 19) rfl (tgt := 22) (by decide) (fun h16 => ?_) (fun h16 => ?_)
    · have hno : ¬ S 165 s = -1 := fun e => Int32.not_lt.mpr h16 (hne.mpr e)
      have hpl := (plc_is w hs hno).2
      refine Y_iload_n 12 rfl (pc2 := 23) rfl rfl ?_
      refine Y_iconst 13 rfl (pc2 := 24) rfl (v := nI 0) (by decide) ?_
      refine Y_aload_n 14 rfl (pc2 := 25) rfl rfl ?_
      refine Y_getR 15 rfl (pc2 := 28) rfl fl_mo_44 ly_mo (by decide) rfl rfl (by omega) ?_
      refine Y_iload_n 16 rfl (pc2 := 29) rfl rfl ?_
      refine Y_iald 17 rfl (pc2 := 30) rfl ly_mo_places rfl (by omega) (by decide) ?_
      refine Y_top ((h.e (by decide) (by decide)).trans (plc_is w hs hno).1) ?_
      refine Y_iconst 18 rfl (pc2 := 31) rfl (v := nI 1) (by decide) ?_
      refine Y_isub 19 rfl (pc2 := 32) rfl ?_
      refine Y_cS 20 rfl (pc2 := 35) rfl ok_mo_isIn lk_mo_62 vs_mo_isIn (as := [.int _, .int _, .int _]) (rest := []) rfl rfl (T_mo_isInm (by omega)) ?_
      rintro _ _ ⟨rfl, rfl⟩
      change Y _ _ _ _ _ [.int _] _ _
      refine Y_if_neb 21 rfl (pc2 := 38) rfl (tgt := 41) (by decide) (fun h35 => ?_) (fun h35 => ?_)
      · obtain ⟨i, hi, rfl⟩ := h35
        refine Y_aload_n 24 rfl (pc2 := 42) rfl rfl ?_
        refine Y_getR 25 rfl (pc2 := 45) rfl fl_mo_47 ly_mo (by decide) rfl rfl (by omega) ?_
        refine Y_bipush 26 rfl (pc2 := 47) rfl (v := nI 16) (by decide) ?_
        refine Y_iload_n 27 rfl (pc2 := 48) rfl rfl ?_
        refine Y_imul 28 rfl (pc2 := 49) rfl ?_
        refine Y_top (nI_mul _ _) ?_
        refine Y_iload_n 29 rfl (pc2 := 50) rfl rfl ?_
        refine Y_iadd 30 rfl (pc2 := 51) rfl ?_
        refine Y_top (nI_add _ _) ?_
        refine Y_iald 31 rfl (pc2 := 52) rfl ly_mo_numbers rfl (by omega) (by decide) ?_
        refine Y_top (h.e (by decide) (by decide)) ?_
        refine Y_istore 32 rfl (pc2 := 54) rfl (Nat.le_of_ble_eq_true rfl) (ls2 := [some (.ref _), some (.int _), some (.int _), some (.int _), some (.int _)]) rfl ?_
        refine Y_aload_n 33 rfl (pc2 := 55) rfl rfl ?_
        refine Y_getR 34 rfl (pc2 := 58) rfl fl_mo_47 ly_mo (by decide) rfl rfl (by omega) ?_
        refine Y_bipush 35 rfl (pc2 := 60) rfl (v := nI 16) (by decide) ?_
        refine Y_iload_n 36 rfl (pc2 := 61) rfl rfl ?_
        refine Y_imul 37 rfl (pc2 := 62) rfl ?_
        refine Y_top (nI_mul _ _) ?_
        refine Y_iload_n 38 rfl (pc2 := 63) rfl rfl ?_
        refine Y_iadd 39 rfl (pc2 := 64) rfl ?_
        refine Y_top (nI_add _ _) ?_
        refine Y_iload_n 40 rfl (pc2 := 65) rfl rfl ?_
        refine Y_i2b 41 rfl (pc2 := 66) rfl rfl ?_
        refine Y_iast 42 rfl (pc2 := 67) rfl ly_mo_numbers rfl (by omega) (by decide) rfl ?_
        refine Y_iload 43 rfl (pc2 := 69) rfl rfl ?_
        refine Y_iret 44 rfl rfl rfl ⟨rfl, ?_⟩
        dsimp only
        exact ⟨by unfold sp_mark; rw [cI_t ⟨s, hs, rfl⟩, nv_nI (k := s) (by omega), cI_f hno, cI_t ⟨i, hi, rfl⟩, nv_nI (k := i) (by omega)], by unfold st_mark; rw [cI_t ⟨⟨s, hs, rfl⟩, by rw [nv_nI (by omega)]; exact hno, by rw [nv_nI (by omega)]; exact ⟨i, hi, rfl⟩⟩, nv_nI (k := s) (by omega), nv_nI (k := i) (by omega)]; exact RM_uw h (by decide), fun a ha => funext fun q => by rw [uw_ne (by omega)]⟩
      · refine Y_ldc 22 rfl (pc2 := 40) rfl kc_mo_138 ?_
        refine Y_iret 23 rfl rfl rfl ⟨rfl, ?_⟩
        dsimp only
        exact pm_bad h (by unfold sp_mark; rw [cI_t ⟨s, hs, rfl⟩, nv_nI (by omega), cI_f hno, cI_f h35]; rfl) (by unfold st_mark; rw [cI_f (fun e => h35 (by have q := e.2.2; rw [nv_nI (by omega)] at q; exact q))])
    · refine Y_ldc 10 rfl (pc2 := 21) rfl kc_mo_137 ?_
      refine Y_iret 11 rfl rfl rfl ⟨rfl, ?_⟩
      dsimp only
      have hy := hne.mp (Int32.not_le.mp h16)
      exact pm_bad h (by unfold sp_mark; rw [cI_t ⟨s, hs, rfl⟩, nv_nI (by omega), cI_t hy]; rfl) (by unfold st_mark; rw [cI_f (fun e => e.2.1 (by rw [nv_nI (by omega)]; exact hy))])
  · refine Y_ldc 3 rfl (pc2 := 9) rfl kc_mo_79 ?_
    refine Y_iret 4 rfl rfl rfl ⟨rfl, ?_⟩
    dsimp only
    exact pm_bad h (by unfold sp_mark; rw [cI_f h4]; rfl) (by unfold st_mark; rw [cI_f (fun e => h4 e.1)])
