/-! the class: leaps, choice -/
def dig (n : Nat) : Prop := n / 100 < 6 ∧ n / 10 % 10 < 6 ∧ n % 10 < 6
noncomputable def sp_leaps (S : Mm) (x y z : Int32) : Int32 := cI (iR x 4 ∧ iR y 4 ∧ 0 ≤ z ∧ dig (nv z)) (cI (okF S (nv y) (nv z / 100) ∧ okF S (nv y) (nv z / 10 % 10) ∧ okF S (nv y) (nv z % 10)) (nI (lps S (nv x) (nv y) (th3 (nv z / 100) (nv z / 10 % 10) (nv z % 10)))) NO_) BAD_
noncomputable def sp_choice (S : Mm) (x y : Int32) : Int32 := cI (iR x 4 ∧ iR y 4) (bB (bst S (nv x) (nv y) 216)) BAD_
set_option maxHeartbeats 400000 in
theorem LR_keep {m m' S : Mm} {l f g : Nat} (h : LR m S l g) (e : lF m m' f) (h2 : LR m' S l f) : LR m' S l g := by
  by_cases q : g = f
  · rw [q]; exact h2
  · exact LR_lF h e q
set_option maxHeartbeats 400000 in
theorem iR_n6 {k : Nat} (hk : k < 2 ^ 31) (h : iR (nI k) 6) : k < 6 := (nI_iR hk (by decide)).mp h
set_option maxHeartbeats 400000 in
theorem niR_n6 {k : Nat} (h : ¬ iR (nI k) 6) : ¬ k < 6 := fun e => h ⟨k, e, rfl⟩

set_option maxHeartbeats 400000 in
theorem T_gh_leaps {G : Nat × (Nat → Int32)} {m : Mm} {S : Mm} (h : RC m S) (w : WF S) {x y z : Int32} : Y G M_gh_leaps (0, 0) 0 (en_ M_gh_leaps [.ref (0), .int (x), .int (y), .int (z)]) [] (LAY, m) (qm_ LAY (pc_ (sp_leaps S x y z) m S)) := by
  change Y _ _ _ _ [some (.ref _), some (.int _), some (.int _), some (.int _), none, none, none, none] _ _ _
  refine Y_iload_n 0 rfl (pc2 := 1) rfl rfl ?_
  refine Y_iconst 1 rfl (pc2 := 2) rfl (v := nI 4) (by decide) ?_
  refine Y_cS 2 rfl (pc2 := 5) rfl ok_gh_isBelow lk_gh_80 vs_gh_isBelow (as := [.int _, .int _]) (rest := []) rfl rfl (T_gh_isBelow (by omega)) ?_
  rintro _ _ ⟨rfl, rfl⟩
  change Y _ _ _ _ _ [.int _] _ _
  refine Y_if_eqb 3 rfl (pc2 := 8) rfl (tgt := 20) (by decide) (fun h5 => ?_) (fun h5 => ?_)
  · refine Y_ldc 10 rfl (pc2 := 22) rfl kc_gh_75 ?_
    refine Y_iret 11 rfl rfl rfl ⟨rfl, ?_⟩
    first | exact pc_0 h (by unfold sp_leaps; rw [cI_f (fun e => h5 e.1)]; rfl) | exact pc_0 h (by unfold sp_leaps; rw [cI_f (fun e => h13 e.2.1)]; rfl) | exact pc_0 h (by unfold sp_leaps; rw [cI_f (fun e => h17 e.2.2.1)]; rfl)
  · obtain ⟨c, hc, rfl⟩ := h5
    refine Y_iload_n 4 rfl (pc2 := 9) rfl rfl ?_
    refine Y_iconst 5 rfl (pc2 := 10) rfl (v := nI 4) (by decide) ?_
    refine Y_cS 6 rfl (pc2 := 13) rfl ok_gh_isBelow lk_gh_80 vs_gh_isBelow (as := [.int _, .int _]) (rest := []) rfl rfl (T_gh_isBelow (by omega)) ?_
    rintro _ _ ⟨rfl, rfl⟩
    change Y _ _ _ _ _ [.int _] _ _
    refine Y_if_eqb 7 rfl (pc2 := 16) rfl (tgt := 20) (by decide) (fun h13 => ?_) (fun h13 => ?_)
    · refine Y_ldc 10 rfl (pc2 := 22) rfl kc_gh_75 ?_
      refine Y_iret 11 rfl rfl rfl ⟨rfl, ?_⟩
      first | exact pc_0 h (by unfold sp_leaps; rw [cI_f (fun e => h5 e.1)]; rfl) | exact pc_0 h (by unfold sp_leaps; rw [cI_f (fun e => h13 e.2.1)]; rfl) | exact pc_0 h (by unfold sp_leaps; rw [cI_f (fun e => h17 e.2.2.1)]; rfl)
    · obtain ⟨l, hl, rfl⟩ := h13
      refine Y_iload_n 8 rfl (pc2 := 17) rfl rfl ?_
      refine Y_if_ge 9 rfl (pc2 := 20) rfl (tgt := 23) (by decide) (fun h17 => ?_) (fun h17 => ?_)
      · obtain ⟨n, hn, rfl⟩ := nI_of (Int32.not_lt.mpr h17)
        refine Y_iload_n 12 rfl (pc2 := 24) rfl rfl ?_
        refine Y_bipush 13 rfl (pc2 := 26) rfl (v := nI 100) (by decide) ?_
        refine Y_idiv 14 rfl (pc2 := 27) rfl (by exact nI_ne0 (by omega) (by omega)) ?_
        refine Y_top (nI_div (by omega) (by omega)) ?_
        refine Y_istore 15 rfl (pc2 := 29) rfl (Nat.le_of_ble_eq_true rfl) (ls2 := [some (.ref _), some (.int _), some (.int _), some (.int _), some (.int _), none, none, none]) rfl ?_
        refine Y_iload_n 16 rfl (pc2 := 30) rfl rfl ?_
        refine Y_bipush 17 rfl (pc2 := 32) rfl (v := nI 10) (by decide) ?_
        refine Y_idiv 18 rfl (pc2 := 33) rfl (by exact nI_ne0 (by omega) (by omega)) ?_
        refine Y_top (nI_div (by omega) (by omega)) ?_
        refine Y_bipush 19 rfl (pc2 := 35) rfl (v := nI 10) (by decide) ?_
        refine Y_irem 20 rfl (pc2 := 36) rfl (by exact nI_ne0 (by omega) (by omega)) ?_
        refine Y_top (nI_rem (by omega) (by omega)) ?_
        refine Y_istore 21 rfl (pc2 := 38) rfl (Nat.le_of_ble_eq_true rfl) (ls2 := [some (.ref _), some (.int _), some (.int _), some (.int _), some (.int _), some (.int _), none, none]) rfl ?_
        refine Y_iload_n 22 rfl (pc2 := 39) rfl rfl ?_
        refine Y_bipush 23 rfl (pc2 := 41) rfl (v := nI 10) (by decide) ?_
        refine Y_irem 24 rfl (pc2 := 42) rfl (by exact nI_ne0 (by omega) (by omega)) ?_
        refine Y_top (nI_rem (by omega) (by omega)) ?_
        refine Y_istore 25 rfl (pc2 := 44) rfl (Nat.le_of_ble_eq_true rfl) (ls2 := [some (.ref _), some (.int _), some (.int _), some (.int _), some (.int _), some (.int _), some (.int _), none]) rfl ?_
        refine Y_iload 26 rfl (pc2 := 46) rfl rfl ?_
        refine Y_bipush 27 rfl (pc2 := 48) rfl (v := nI 6) (by decide) ?_
        refine Y_cS 28 rfl (pc2 := 51) rfl ok_gh_isBelow lk_gh_80 vs_gh_isBelow (as := [.int _, .int _]) (rest := []) rfl rfl (T_gh_isBelow (by omega)) ?_
        rintro _ _ ⟨rfl, rfl⟩
        change Y _ _ _ _ _ [.int _] _ _
        refine Y_if_eqb 29 rfl (pc2 := 54) rfl (tgt := 74) (by decide) (fun h51 => ?_) (fun h51 => ?_)
        · refine Y_ldc 38 rfl (pc2 := 76) rfl kc_gh_75 ?_
          refine Y_iret 39 rfl rfl rfl ⟨rfl, ?_⟩
          first | exact pc_0 h (by unfold sp_leaps; rw [cI_f (fun e => niR_n6 h51 (by have q := e.2.2.2.1; rw [nv_nI hn] at q; exact q))]; rfl) | exact pc_0 h (by unfold sp_leaps; rw [cI_f (fun e => niR_n6 h61 (by have q := e.2.2.2.2.1; rw [nv_nI hn] at q; exact q))]; rfl) | exact pc_0 h (by unfold sp_leaps; rw [cI_f (fun e => niR_n6 h71 (by have q := e.2.2.2.2.2; rw [nv_nI hn] at q; exact q))]; rfl)
        · refine Y_iload 30 rfl (pc2 := 56) rfl rfl ?_
          refine Y_bipush 31 rfl (pc2 := 58) rfl (v := nI 6) (by decide) ?_
          refine Y_cS 32 rfl (pc2 := 61) rfl ok_gh_isBelow lk_gh_80 vs_gh_isBelow (as := [.int _, .int _]) (rest := []) rfl rfl (T_gh_isBelow (by omega)) ?_
          rintro _ _ ⟨rfl, rfl⟩
          change Y _ _ _ _ _ [.int _] _ _
          refine Y_if_eqb 33 rfl (pc2 := 64) rfl (tgt := 74) (by decide) (fun h61 => ?_) (fun h61 => ?_)
          · refine Y_ldc 38 rfl (pc2 := 76) rfl kc_gh_75 ?_
            refine Y_iret 39 rfl rfl rfl ⟨rfl, ?_⟩
            first | exact pc_0 h (by unfold sp_leaps; rw [cI_f (fun e => niR_n6 h51 (by have q := e.2.2.2.1; rw [nv_nI hn] at q; exact q))]; rfl) | exact pc_0 h (by unfold sp_leaps; rw [cI_f (fun e => niR_n6 h61 (by have q := e.2.2.2.2.1; rw [nv_nI hn] at q; exact q))]; rfl) | exact pc_0 h (by unfold sp_leaps; rw [cI_f (fun e => niR_n6 h71 (by have q := e.2.2.2.2.2; rw [nv_nI hn] at q; exact q))]; rfl)
          · refine Y_iload 34 rfl (pc2 := 66) rfl rfl ?_
            refine Y_bipush 35 rfl (pc2 := 68) rfl (v := nI 6) (by decide) ?_
            refine Y_cS 36 rfl (pc2 := 71) rfl ok_gh_isBelow lk_gh_80 vs_gh_isBelow (as := [.int _, .int _]) (rest := []) rfl rfl (T_gh_isBelow (by omega)) ?_
            rintro _ _ ⟨rfl, rfl⟩
            change Y _ _ _ _ _ [.int _] _ _
            refine Y_if_neb 37 rfl (pc2 := 74) rfl (tgt := 77) (by decide) (fun h71 => ?_) (fun h71 => ?_)
            · have d1 := iR_n6 (by omega) h51
              have d2 := iR_n6 (by omega) h61
              have d3 := iR_n6 (by omega) h71
              refine Y_aload_n 40 rfl (pc2 := 78) rfl rfl ?_
              refine Y_getR 41 rfl (pc2 := 81) rfl fl_gh_31 ly_gh (by decide) rfl rfl (by omega) ?_
              refine Y_iload_n 42 rfl (pc2 := 82) rfl rfl ?_
              refine Y_aald 43 rfl (pc2 := 83) rfl ly_ghL (by decide) (fun _ => rfl) rfl (by omega) (by decide) (ly_ghL_at (by omega)) (by omega) ?_
              refine Y_astore 44 rfl (pc2 := 85) rfl (Nat.le_of_ble_eq_true rfl) (ls2 := [some (.ref _), some (.int _), some (.int _), some (.int _), some (.int _), some (.int _), some (.int _), some (.ref _)]) rfl ?_
              refine Y_aload 45 rfl (pc2 := 87) rfl rfl ?_
              refine Y_getR 46 rfl (pc2 := 90) rfl fl_gh_117 (ly_le (by omega)) (by decide) rfl rfl (by omega) ?_
              refine Y_iload 47 rfl (pc2 := 92) rfl rfl ?_
              refine Y_aald 48 rfl (pc2 := 93) rfl (ly_leF (by omega)) (by decide) (fun _ => rfl) rfl (by omega) (by decide) (ly_leF_at (by omega)) (by omega) ?_
              refine Y_cV 49 rfl (pc2 := 96) rfl ok_fi_isRight lk_gh_223 vi_fi_isRight (ly_fi (by omega) (by omega)) rfl (by decide) rfl (as := []) (rest := []) rfl rfl (T_fi_isRight h w (by omega) (by omega)) ?_
              rintro _ _ ⟨rfl, rfl⟩
              change Y _ _ _ _ _ [.int _] _ _
              refine Y_if_eqb 50 rfl (pc2 := 99) rfl (tgt := 127) (by decide) (fun h96 => ?_) (fun h96 => ?_)
              · refine Y_ldc 63 rfl (pc2 := 129) rfl kc_gh_88 ?_
                refine Y_iret 64 rfl rfl rfl ⟨rfl, ?_⟩
                first | exact pc_0 h (by unfold sp_leaps; rw [cI_t ⟨⟨c, hc, rfl⟩, ⟨l, hl, rfl⟩, h17, by rw [nv_nI hn]; exact ⟨d1, d2, d3⟩⟩, nv_nI (k := c) (by omega), nv_nI (k := l) (by omega), nv_nI hn]; rw [cI_f (fun e => h96 e.1)]; rfl) | exact pc_0 h (by unfold sp_leaps; rw [cI_t ⟨⟨c, hc, rfl⟩, ⟨l, hl, rfl⟩, h17, by rw [nv_nI hn]; exact ⟨d1, d2, d3⟩⟩, nv_nI (k := c) (by omega), nv_nI (k := l) (by omega), nv_nI hn]; rw [cI_f (fun e => h110 e.2.1)]; rfl) | exact pc_0 h (by unfold sp_leaps; rw [cI_t ⟨⟨c, hc, rfl⟩, ⟨l, hl, rfl⟩, h17, by rw [nv_nI hn]; exact ⟨d1, d2, d3⟩⟩, nv_nI (k := c) (by omega), nv_nI (k := l) (by omega), nv_nI hn]; rw [cI_f (fun e => h124 e.2.2)]; rfl)
              · refine Y_aload 51 rfl (pc2 := 101) rfl rfl ?_
                refine Y_getR 52 rfl (pc2 := 104) rfl fl_gh_117 (ly_le (by omega)) (by decide) rfl rfl (by omega) ?_
                refine Y_iload 53 rfl (pc2 := 106) rfl rfl ?_
                refine Y_aald 54 rfl (pc2 := 107) rfl (ly_leF (by omega)) (by decide) (fun _ => rfl) rfl (by omega) (by decide) (ly_leF_at (by omega)) (by omega) ?_
                refine Y_cV 55 rfl (pc2 := 110) rfl ok_fi_isRight lk_gh_223 vi_fi_isRight (ly_fi (by omega) (by omega)) rfl (by decide) rfl (as := []) (rest := []) rfl rfl (T_fi_isRight h w (by omega) (by omega)) ?_
                rintro _ _ ⟨rfl, rfl⟩
                change Y _ _ _ _ _ [.int _] _ _
                refine Y_if_eqb 56 rfl (pc2 := 113) rfl (tgt := 127) (by decide) (fun h110 => ?_) (fun h110 => ?_)
                · refine Y_ldc 63 rfl (pc2 := 129) rfl kc_gh_88 ?_
                  refine Y_iret 64 rfl rfl rfl ⟨rfl, ?_⟩
                  first | exact pc_0 h (by unfold sp_leaps; rw [cI_t ⟨⟨c, hc, rfl⟩, ⟨l, hl, rfl⟩, h17, by rw [nv_nI hn]; exact ⟨d1, d2, d3⟩⟩, nv_nI (k := c) (by omega), nv_nI (k := l) (by omega), nv_nI hn]; rw [cI_f (fun e => h96 e.1)]; rfl) | exact pc_0 h (by unfold sp_leaps; rw [cI_t ⟨⟨c, hc, rfl⟩, ⟨l, hl, rfl⟩, h17, by rw [nv_nI hn]; exact ⟨d1, d2, d3⟩⟩, nv_nI (k := c) (by omega), nv_nI (k := l) (by omega), nv_nI hn]; rw [cI_f (fun e => h110 e.2.1)]; rfl) | exact pc_0 h (by unfold sp_leaps; rw [cI_t ⟨⟨c, hc, rfl⟩, ⟨l, hl, rfl⟩, h17, by rw [nv_nI hn]; exact ⟨d1, d2, d3⟩⟩, nv_nI (k := c) (by omega), nv_nI (k := l) (by omega), nv_nI hn]; rw [cI_f (fun e => h124 e.2.2)]; rfl)
                · refine Y_aload 57 rfl (pc2 := 115) rfl rfl ?_
                  refine Y_getR 58 rfl (pc2 := 118) rfl fl_gh_117 (ly_le (by omega)) (by decide) rfl rfl (by omega) ?_
                  refine Y_iload 59 rfl (pc2 := 120) rfl rfl ?_
                  refine Y_aald 60 rfl (pc2 := 121) rfl (ly_leF (by omega)) (by decide) (fun _ => rfl) rfl (by omega) (by decide) (ly_leF_at (by omega)) (by omega) ?_
                  refine Y_cV 61 rfl (pc2 := 124) rfl ok_fi_isRight lk_gh_223 vi_fi_isRight (ly_fi (by omega) (by omega)) rfl (by decide) rfl (as := []) (rest := []) rfl rfl (T_fi_isRight h w (by omega) (by omega)) ?_
                  rintro _ _ ⟨rfl, rfl⟩
                  change Y _ _ _ _ _ [.int _] _ _
                  refine Y_if_neb 62 rfl (pc2 := 127) rfl (tgt := 130) (by decide) (fun h124 => ?_) (fun h124 => ?_)
                  · refine Y_aload_n 65 rfl (pc2 := 131) rfl rfl ?_
                    refine Y_getR 66 rfl (pc2 := 134) rfl fl_gh_52 ly_gh (by decide) rfl rfl (by omega) ?_
                    refine Y_aload 67 rfl (pc2 := 136) rfl rfl ?_
                    refine Y_getR 68 rfl (pc2 := 139) rfl fl_gh_117 (ly_le (by omega)) (by decide) rfl rfl (by omega) ?_
                    refine Y_iload 69 rfl (pc2 := 141) rfl rfl ?_
                    refine Y_aald 70 rfl (pc2 := 142) rfl (ly_leF (by omega)) (by decide) (fun _ => rfl) rfl (by omega) (by decide) (ly_leF_at (by omega)) (by omega) ?_
                    refine Y_iload 71 rfl (pc2 := 144) rfl rfl ?_
                    refine Y_cV 72 rfl (pc2 := 147) rfl ok_li_learn lk_gh_226 vi_li_learn ly_li rfl (by decide) rfl (as := [.ref _, .int _]) (rest := []) rfl rfl (T_li_learn h w hl d1 h96) ?_
                    rintro _ m1 ⟨rfl, hF1, hL1⟩
                    change Y _ _ _ _ _ [] _ _
                    refine Y_aload_n 73 rfl (pc2 := 148) rfl rfl ?_
                    refine Y_getR 74 rfl (pc2 := 151) rfl fl_gh_52 ly_gh (by decide) rfl rfl (by omega) ?_
                    refine Y_aload 75 rfl (pc2 := 153) rfl rfl ?_
                    refine Y_getR 76 rfl (pc2 := 156) rfl fl_gh_117 (ly_le (by omega)) (by decide) rfl rfl (by omega) ?_
                    refine Y_iload 77 rfl (pc2 := 158) rfl rfl ?_
                    refine Y_aald 78 rfl (pc2 := 159) rfl (ly_leF (by omega)) (by decide) (fun _ => rfl) rfl (by omega) (by decide) (ly_leF_at (by omega)) (by omega) ?_
                    refine Y_iload 79 rfl (pc2 := 161) rfl rfl ?_
                    refine Y_cV 80 rfl (pc2 := 164) rfl ok_li_learn lk_gh_226 vi_li_learn ly_li rfl (by decide) rfl (as := [.ref _, .int _]) (rest := []) rfl rfl (T_li_learn (RC_lF h hF1) w hl d2 h110) ?_
                    rintro _ m2 ⟨rfl, hF2, hL2⟩
                    change Y _ _ _ _ _ [] _ _
                    refine Y_aload_n 81 rfl (pc2 := 165) rfl rfl ?_
                    refine Y_getR 82 rfl (pc2 := 168) rfl fl_gh_52 ly_gh (by decide) rfl rfl (by omega) ?_
                    refine Y_aload 83 rfl (pc2 := 170) rfl rfl ?_
                    refine Y_getR 84 rfl (pc2 := 173) rfl fl_gh_117 (ly_le (by omega)) (by decide) rfl rfl (by omega) ?_
                    refine Y_iload 85 rfl (pc2 := 175) rfl rfl ?_
                    refine Y_aald 86 rfl (pc2 := 176) rfl (ly_leF (by omega)) (by decide) (fun _ => rfl) rfl (by omega) (by decide) (ly_leF_at (by omega)) (by omega) ?_
                    refine Y_iload 87 rfl (pc2 := 178) rfl rfl ?_
                    refine Y_cV 88 rfl (pc2 := 181) rfl ok_li_learn lk_gh_226 vi_li_learn ly_li rfl (by decide) rfl (as := [.ref _, .int _]) (rest := []) rfl rfl (T_li_learn (RC_lF (RC_lF h hF1) hF2) w hl d3 h124) ?_
                    rintro _ m3 ⟨rfl, hF3, hL3⟩
                    change Y _ _ _ _ _ [] _ _
                    refine Y_aload_n 89 rfl (pc2 := 182) rfl rfl ?_
                    refine Y_getR 90 rfl (pc2 := 185) rfl fl_gh_52 ly_gh (by decide) rfl rfl (by omega) ?_
                    refine Y_aload_n 91 rfl (pc2 := 186) rfl rfl ?_
                    refine Y_getR 92 rfl (pc2 := 189) rfl fl_gh_25 ly_gh (by decide) rfl rfl (by omega) ?_
                    refine Y_iload_n 93 rfl (pc2 := 190) rfl rfl ?_
                    refine Y_aald 94 rfl (pc2 := 191) rfl ly_ghC (by decide) (fun _ => rfl) rfl (by omega) (by decide) (ly_ghC_at (by omega)) (by omega) ?_
                    refine Y_iload 95 rfl (pc2 := 193) rfl rfl ?_
                    refine Y_iload 96 rfl (pc2 := 195) rfl rfl ?_
                    refine Y_iload 97 rfl (pc2 := 197) rfl rfl ?_
                    refine Y_cV 98 rfl (pc2 := 200) rfl ok_li_leapsWith lk_gh_230 vi_li_leapsWith ly_li rfl (by decide) rfl (as := [.ref _, .int _, .int _, .int _]) (rest := []) rfl rfl (T_li_leapsWith (RC_lF (RC_lF (RC_lF h hF1) hF2) hF3) w hc hl d1 d2 d3 h96 h110 h124 (LR_keep (LR_keep hL1 hF2 hL2) hF3 hL3) (LR_keep hL2 hF3 hL3) hL3) ?_
                    rintro _ m4 ⟨rfl, hE⟩
                    change Y _ _ _ _ _ [.int _] _ _
                    refine Y_iret 99 rfl rfl rfl ⟨rfl, ?_⟩
                    exact ⟨by unfold sp_leaps; rw [cI_t ⟨⟨c, hc, rfl⟩, ⟨l, hl, rfl⟩, h17, by rw [nv_nI hn]; exact ⟨d1, d2, d3⟩⟩, nv_nI (k := c) (by omega), nv_nI (k := l) (by omega), nv_nI hn]; rw [cI_t ⟨h96, h110, h124⟩], RC_18 (RC_lF (RC_lF (RC_lF h hF1) hF2) hF3) hE, fun a ha => by show m4 a = m a; rw [hE a (by omega), lF_ne hF3 (by omega), lF_ne hF2 (by omega), lF_ne hF1 (by omega)]⟩
                  · refine Y_ldc 63 rfl (pc2 := 129) rfl kc_gh_88 ?_
                    refine Y_iret 64 rfl rfl rfl ⟨rfl, ?_⟩
                    first | exact pc_0 h (by unfold sp_leaps; rw [cI_t ⟨⟨c, hc, rfl⟩, ⟨l, hl, rfl⟩, h17, by rw [nv_nI hn]; exact ⟨d1, d2, d3⟩⟩, nv_nI (k := c) (by omega), nv_nI (k := l) (by omega), nv_nI hn]; rw [cI_f (fun e => h96 e.1)]; rfl) | exact pc_0 h (by unfold sp_leaps; rw [cI_t ⟨⟨c, hc, rfl⟩, ⟨l, hl, rfl⟩, h17, by rw [nv_nI hn]; exact ⟨d1, d2, d3⟩⟩, nv_nI (k := c) (by omega), nv_nI (k := l) (by omega), nv_nI hn]; rw [cI_f (fun e => h110 e.2.1)]; rfl) | exact pc_0 h (by unfold sp_leaps; rw [cI_t ⟨⟨c, hc, rfl⟩, ⟨l, hl, rfl⟩, h17, by rw [nv_nI hn]; exact ⟨d1, d2, d3⟩⟩, nv_nI (k := c) (by omega), nv_nI (k := l) (by omega), nv_nI hn]; rw [cI_f (fun e => h124 e.2.2)]; rfl)
            · refine Y_ldc 38 rfl (pc2 := 76) rfl kc_gh_75 ?_
              refine Y_iret 39 rfl rfl rfl ⟨rfl, ?_⟩
              first | exact pc_0 h (by unfold sp_leaps; rw [cI_f (fun e => niR_n6 h51 (by have q := e.2.2.2.1; rw [nv_nI hn] at q; exact q))]; rfl) | exact pc_0 h (by unfold sp_leaps; rw [cI_f (fun e => niR_n6 h61 (by have q := e.2.2.2.2.1; rw [nv_nI hn] at q; exact q))]; rfl) | exact pc_0 h (by unfold sp_leaps; rw [cI_f (fun e => niR_n6 h71 (by have q := e.2.2.2.2.2; rw [nv_nI hn] at q; exact q))]; rfl)
      · refine Y_ldc 10 rfl (pc2 := 22) rfl kc_gh_75 ?_
        refine Y_iret 11 rfl rfl rfl ⟨rfl, ?_⟩
        first | exact pc_0 h (by unfold sp_leaps; rw [cI_f (fun e => h5 e.1)]; rfl) | exact pc_0 h (by unfold sp_leaps; rw [cI_f (fun e => h13 e.2.1)]; rfl) | exact pc_0 h (by unfold sp_leaps; rw [cI_f (fun e => h17 e.2.2.1)]; rfl)

def cF (m m' : Mm) : Prop := ∀ a, ¬ (a = 15 ∨ a = 16 ∨ a = 17 ∨ a = 19) → m' a = m a
set_option maxHeartbeats 400000 in
theorem RC_cF {m m' S : Mm} (h : RC m S) (e : cF m m') : RC m' S := h.mono (fun a ha _ => e a (by intro q; apply ha; unfold scr; omega))
set_option maxHeartbeats 400000 in
theorem nar_b {p : Prop} : vp_nar .boolean (bI p) = bI p := by
  by_cases h : p
  · rw [bI_t h]; rfl
  · rw [bI_f h]; rfl

set_option maxHeartbeats 400000 in
theorem L_choice {G : Nat × (Nat → Int32)} {m : Mm} {S : Mm} (h0 : RC m S) (w : WF S) {c l : Nat} (hc : c < 4) (hl : l < 4) : ∀ i, i ≤ 6 → ∀ m1, cF m m1 → (∀ f, f < i → m1 19 f = bI (okF S l f) ∧ (okF S l f → LR m1 S l f)) → ∀ (u : Option Value), Y G M_gh_choice (0, 0) 21 [some (.ref 0), some (.int (nI c)), some (.int (nI l)), some (.int (nI i)), u] [] (LAY, m1) (qm_ LAY (pc_ (bB (bst S c l 216)) m S)) := by
  refine ind_ (fun i hi ih m1 hC hD u => ?_)
  have h := RC_cF h0 hC
  refine Y_iload_n 12 rfl (pc2 := 22) rfl rfl ?_
  refine Y_bipush 13 rfl (pc2 := 24) rfl (v := nI 6) (by decide) ?_
  refine Y_icmp_gen 14 rfl (pc2 := 27) rfl (tgt := 82) (by decide) (by omega) (by omega) (fun h24 => ?_) (fun h24 => ?_)
  · refine Y_aload_n 43 rfl (pc2 := 83) rfl rfl ?_
    refine Y_getR 44 rfl (pc2 := 86) rfl fl_gh_52 ly_gh (by decide) rfl rfl (by omega) ?_
    refine Y_aload_n 45 rfl (pc2 := 87) rfl rfl ?_
    refine Y_getR 46 rfl (pc2 := 90) rfl fl_gh_25 ly_gh (by decide) rfl rfl (by omega) ?_
    refine Y_iload_n 47 rfl (pc2 := 91) rfl rfl ?_
    refine Y_aald 48 rfl (pc2 := 92) rfl ly_ghC (by decide) (fun _ => rfl) rfl (by omega) (by decide) (ly_ghC_at (by omega)) (by omega) ?_
    refine Y_cV 49 rfl (pc2 := 95) rfl ok_li_leastLeaping lk_gh_237 vi_li_leastLeaping ly_li rfl (by decide) rfl (as := [.ref _]) (rest := []) rfl rfl (T_li_leastLeaping h w hc hl (fun f hf => (hD f (by omega)).1) (fun f hf => (hD f (by omega)).2)) ?_
    rintro _ m4 ⟨rfl, hE⟩
    change Y _ _ _ _ _ [.int _] _ _
    refine Y_iret 50 rfl rfl rfl ⟨rfl, ?_⟩
    exact ⟨rfl, RC_18 h hE, fun a ha => by show m4 a = m a; rw [hE a (by omega)]; exact hC a (by omega)⟩
  · refine Y_aload_n 15 rfl (pc2 := 28) rfl rfl ?_
    refine Y_getR 16 rfl (pc2 := 31) rfl fl_gh_31 ly_gh (by decide) rfl rfl (by omega) ?_
    refine Y_iload_n 17 rfl (pc2 := 32) rfl rfl ?_
    refine Y_aald 18 rfl (pc2 := 33) rfl ly_ghL (by decide) (fun _ => rfl) rfl (by omega) (by decide) (ly_ghL_at (by omega)) (by omega) ?_
    refine Y_getR 19 rfl (pc2 := 36) rfl fl_gh_117 (ly_le (by omega)) (by decide) rfl rfl (by omega) ?_
    refine Y_iload_n 20 rfl (pc2 := 37) rfl rfl ?_
    refine Y_aald 21 rfl (pc2 := 38) rfl (ly_leF (by omega)) (by decide) (fun _ => rfl) rfl (by omega) (by decide) (ly_leF_at (by omega)) (by omega) ?_
    refine Y_astore 22 rfl (pc2 := 40) rfl (Nat.le_of_ble_eq_true rfl) (ls2 := [some (.ref _), some (.int _), some (.int _), some (.int _), some (.ref _)]) rfl ?_
    refine Y_aload_n 23 rfl (pc2 := 41) rfl rfl ?_
    refine Y_getR 24 rfl (pc2 := 44) rfl fl_gh_52 ly_gh (by decide) rfl rfl (by omega) ?_
    refine Y_getR 25 rfl (pc2 := 47) rfl fl_gh_234 ly_li (by decide) rfl rfl (by omega) ?_
    refine Y_iload_n 26 rfl (pc2 := 48) rfl rfl ?_
    refine Y_aload 27 rfl (pc2 := 50) rfl rfl ?_
    refine Y_cV 28 rfl (pc2 := 53) rfl ok_fi_isRight lk_gh_223 vi_fi_isRight (ly_fi (by omega) (by omega)) rfl (by decide) rfl (as := []) (rest := [.int _, .ref _]) rfl rfl (T_fi_isRight h w (by omega) (by omega)) ?_
    rintro _ _ ⟨rfl, rfl⟩
    change Y _ _ _ _ _ [.int _, .int _, .ref _] _ _
    refine Y_zast 29 rfl (pc2 := 54) rfl ly_liU rfl (by omega) (by decide) nar_b ?_
    refine Y_aload_n 30 rfl (pc2 := 55) rfl rfl ?_
    refine Y_getR 31 rfl (pc2 := 58) rfl fl_gh_52 ly_gh (by decide) rfl rfl (by omega) ?_
    refine Y_getR 32 rfl (pc2 := 61) rfl fl_gh_234 ly_li (by decide) rfl rfl (by omega) ?_
    refine Y_iload_n 33 rfl (pc2 := 62) rfl rfl ?_
    refine Y_zald 34 rfl (pc2 := 63) rfl ly_liU rfl (by omega) (by decide) ?_
    refine Y_top (uw_same) ?_
    refine Y_if_eqb 35 rfl (pc2 := 66) rfl (tgt := 76) (by decide) (fun h63 => ?_) (fun h63 => ?_)
    · refine Y_iinc 41 rfl (pc2 := 79) rfl rfl (nI_inc _ 1) (ls2 := [some (.ref _), some (.int _), some (.int _), some (.int _), some (.ref _)]) rfl ?_
      refine Y_goto 42 rfl (pc2 := 21) (by decide) ?_
      first
        | exact (by
            refine ih (i + 1) (by omega) (by omega) m2 (fun a ha => by rw [lF_ne hF2 (by omega)]; funext k; rw [uw_ne (by omega)]; exact congrFun (hC a ha) k) (fun f hf => ?_) _
            by_cases e : f = i
            · rw [e]
              exact ⟨by rw [lF_ne hF2 (by omega)]; exact uw_same, fun _ => hL2⟩
            · obtain ⟨p1, p2⟩ := hD f (by omega)
              exact ⟨by rw [lF_ne hF2 (by omega), uw_ne (by omega)]; exact p1, fun q => LR_lF (LR_k (p2 q) (by omega) rfl) hF2 e⟩)
        | exact (by
            refine ih (i + 1) (by omega) (by omega) _ (fun a ha => by funext k; rw [uw_ne (by omega)]; exact congrFun (hC a ha) k) (fun f hf => ?_) _
            by_cases e : f = i
            · rw [e]
              exact ⟨uw_same, fun q => absurd q h63⟩
            · obtain ⟨p1, p2⟩ := hD f (by omega)
              exact ⟨by rw [uw_ne (by omega)]; exact p1, fun q => LR_k (p2 q) (by omega) rfl⟩)
    · refine Y_aload_n 36 rfl (pc2 := 67) rfl rfl ?_
      refine Y_getR 37 rfl (pc2 := 70) rfl fl_gh_52 ly_gh (by decide) rfl rfl (by omega) ?_
      refine Y_aload 38 rfl (pc2 := 72) rfl rfl ?_
      refine Y_iload_n 39 rfl (pc2 := 73) rfl rfl ?_
      refine Y_cV 40 rfl (pc2 := 76) rfl ok_li_learn lk_gh_226 vi_li_learn ly_li rfl (by decide) rfl (as := [.ref _, .int _]) (rest := []) rfl rfl (T_li_learn (RC_uw (by unfold scr; omega) h) w hl (by omega) h63) ?_
      rintro _ m2 ⟨rfl, hF2, hL2⟩
      change Y _ _ _ _ _ [] _ _
      refine Y_iinc 41 rfl (pc2 := 79) rfl rfl (nI_inc _ 1) (ls2 := [some (.ref _), some (.int _), some (.int _), some (.int _), some (.ref _)]) rfl ?_
      refine Y_goto 42 rfl (pc2 := 21) (by decide) ?_
      first
        | exact (by
            refine ih (i + 1) (by omega) (by omega) m2 (fun a ha => by rw [lF_ne hF2 (by omega)]; funext k; rw [uw_ne (by omega)]; exact congrFun (hC a ha) k) (fun f hf => ?_) _
            by_cases e : f = i
            · rw [e]
              exact ⟨by rw [lF_ne hF2 (by omega)]; exact uw_same, fun _ => hL2⟩
            · obtain ⟨p1, p2⟩ := hD f (by omega)
              exact ⟨by rw [lF_ne hF2 (by omega), uw_ne (by omega)]; exact p1, fun q => LR_lF (LR_k (p2 q) (by omega) rfl) hF2 e⟩)
        | exact (by
            refine ih (i + 1) (by omega) (by omega) _ (fun a ha => by funext k; rw [uw_ne (by omega)]; exact congrFun (hC a ha) k) (fun f hf => ?_) _
            by_cases e : f = i
            · rw [e]
              exact ⟨uw_same, fun q => absurd q h63⟩
            · obtain ⟨p1, p2⟩ := hD f (by omega)
              exact ⟨by rw [uw_ne (by omega)]; exact p1, fun q => LR_k (p2 q) (by omega) rfl⟩)

set_option maxHeartbeats 400000 in
theorem T_gh_choice {G : Nat × (Nat → Int32)} {m : Mm} {S : Mm} (h : RC m S) (w : WF S) {x y : Int32} : Y G M_gh_choice (0, 0) 0 (en_ M_gh_choice [.ref (0), .int (x), .int (y)]) [] (LAY, m) (qm_ LAY (pc_ (sp_choice S x y) m S)) := by
  change Y _ _ _ _ [some (.ref _), some (.int _), some (.int _), none, none] _ _ _
  refine Y_iload_n 0 rfl (pc2 := 1) rfl rfl ?_
  refine Y_iconst 1 rfl (pc2 := 2) rfl (v := nI 4) (by decide) ?_
  refine Y_cS 2 rfl (pc2 := 5) rfl ok_gh_isBelow lk_gh_80 vs_gh_isBelow (as := [.int _, .int _]) (rest := []) rfl rfl (T_gh_isBelow (by omega)) ?_
  rintro _ _ ⟨rfl, rfl⟩
  change Y _ _ _ _ _ [.int _] _ _
  refine Y_if_eqb 3 rfl (pc2 := 8) rfl (tgt := 16) (by decide) (fun h5 => ?_) (fun h5 => ?_)
  · refine Y_ldc 8 rfl (pc2 := 18) rfl kc_gh_75 ?_
    refine Y_iret 9 rfl rfl rfl ⟨rfl, ?_⟩
    first | exact pc_0 h (by unfold sp_choice; rw [cI_f (fun e => h5 e.1)]; rfl) | exact pc_0 h (by unfold sp_choice; rw [cI_f (fun e => h13 e.2)]; rfl)
  · obtain ⟨c, hc, rfl⟩ := h5
    refine Y_iload_n 4 rfl (pc2 := 9) rfl rfl ?_
    refine Y_iconst 5 rfl (pc2 := 10) rfl (v := nI 4) (by decide) ?_
    refine Y_cS 6 rfl (pc2 := 13) rfl ok_gh_isBelow lk_gh_80 vs_gh_isBelow (as := [.int _, .int _]) (rest := []) rfl rfl (T_gh_isBelow (by omega)) ?_
    rintro _ _ ⟨rfl, rfl⟩
    change Y _ _ _ _ _ [.int _] _ _
    refine Y_if_neb 7 rfl (pc2 := 16) rfl (tgt := 19) (by decide) (fun h13 => ?_) (fun h13 => ?_)
    · obtain ⟨l, hl, rfl⟩ := h13
      refine Y_iconst 10 rfl (pc2 := 20) rfl (v := nI 0) (by decide) ?_
      refine Y_istore_n 11 rfl (pc2 := 21) rfl (Nat.le_of_ble_eq_true rfl) (ls2 := [some (.ref _), some (.int _), some (.int _), some (.int _), none]) rfl ?_
      unfold sp_choice
      rw [cI_t ⟨⟨c, hc, rfl⟩, ⟨l, hl, rfl⟩⟩, nv_nI (k := c) (by omega), nv_nI (k := l) (by omega)]
      exact L_choice h w hc hl 0 (Nat.zero_le _) m (fun _ _ => rfl) (fun f hf => absurd hf (Nat.not_lt_zero f)) _
    · refine Y_ldc 8 rfl (pc2 := 18) rfl kc_gh_75 ?_
      refine Y_iret 9 rfl rfl rfl ⟨rfl, ?_⟩
      first | exact pc_0 h (by unfold sp_choice; rw [cI_f (fun e => h5 e.1)]; rfl) | exact pc_0 h (by unfold sp_choice; rw [cI_f (fun e => h13 e.2)]; rfl)
