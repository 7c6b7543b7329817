/-! the class: the walk through a piece, round by round -/
set_option maxHeartbeats 400000 in
theorem L_inner {G : Nat × (Nat → Int32)} {m : Mm} {S : Mm} (h : RC m S) (w : WF S) {gl : Int32} {p : Nat} (hp : p < pn S) (HO : (∀ r, r < rs S (p + 1) → ¬ gl = nI r) → ∀ (c : Int32) (u : Option Value), Y G M_wa_reaches (0, 0) 18 [some (.ref 13), some (.ref 8), some (.ref 6), some (.int gl), some (.int (nI (rs S (p + 1)))), u] [] (LAY, wk m c (nI (plv S (rs S (p + 1)))) (nI (p + 1)) (nI (ptk S (rs S (p + 1))))) (qm_ LAY (pW m S gl))) : ∀ k, k ≤ pT S p → ∀ L, L = (if k = 0 then ov S p (plv S (rs S p)) else plv S (rs S p + k)) → (∀ r, r < rs S p + k → ¬ gl = nI r) → Y G M_wa_reaches (0, 0) 65 [some (.ref 13), some (.ref 8), some (.ref 6), some (.int gl), some (.int (nI (rs S p + k))), some (.int (nI k))] [] (LAY, wk m (nI (pC S p)) (nI L) (nI p) (nI (ptk S (rs S p + k)))) (qm_ LAY (pW m S gl)) := by
  have hp16 := w.p.2
  have hc4 := (w.c p (by omega)).2
  have ht1 := w.t1 p hp
  have ht9 := (w.t p (by omega)).2
  have hr144 := rs_le w (p := p) (by omega)
  refine ind_ (fun k hk ih L hLe hg => ?_)
  refine Y_iload 35 rfl (pc2 := 67) rfl rfl ?_
  refine Y_aload_n 36 rfl (pc2 := 68) rfl rfl ?_
  refine Y_getR 37 rfl (pc2 := 71) rfl fl_wa_40 ly_pi (by decide) rfl rfl (by omega) ?_
  refine Y_aload_n 38 rfl (pc2 := 72) rfl rfl ?_
  refine Y_getI 39 rfl (pc2 := 75) rfl fl_wa_18 ly_wa (by decide) rfl ?_
  refine Y_top (wk_p) ?_
  refine Y_iald 40 rfl (pc2 := 76) rfl ly_piT rfl (by omega) (by decide) ?_
  refine Y_top (((RC_wk h).pt _ (by omega)).trans (w.t _ (by omega)).1) ?_
  refine Y_icmp_gen 41 rfl (pc2 := 79) rfl (tgt := 148) (by decide) (by omega) (by omega) (fun h76 => ?_) (fun h76 => ?_)
  · refine Y_aload_n 77 rfl (pc2 := 149) rfl rfl ?_
    refine Y_dup 78 rfl (pc2 := 150) rfl rfl ?_
    refine Y_getI 79 rfl (pc2 := 153) rfl fl_wa_18 ly_wa (by decide) rfl ?_
    refine Y_top (wk_p) ?_
    refine Y_iconst 80 rfl (pc2 := 154) rfl (v := nI 1) (by decide) ?_
    refine Y_iadd 81 rfl (pc2 := 155) rfl ?_
    refine Y_top (nI_add _ _) ?_
    refine Y_putI 82 rfl (pc2 := 158) rfl fl_wa_18 ly_wa (by decide) ⟨rfl, rfl⟩ ⟨_, _, _, rfl, rfl⟩ rfl ?_
    refine Y_mem wk_sp ?_
    refine Y_goto 83 rfl (pc2 := 18) (by decide) ?_
    have e3 : k = pT S p := by omega
    have e4 : rs S p + k = rs S (p + 1) := by rw [rs_s, e3]
    rw [if_neg (by omega)] at hLe
    subst hLe
    have hi := HO (fun r hr => hg r (by omega)) (nI (pC S p)) (some (.int (nI k)))
    rw [e4]
    exact hi
  · have hrt : rs S p + k < tot S := by have := su_mono (f := pT S) (a := p + 1) (pn S) (by omega); have e : su (pT S) (p + 1) = su (pT S) p + pT S p := rfl; unfold tot rs; omega
    have h144 := tot_le w
    obtain ⟨hw1, hw2, hw3⟩ := wk_at w p hp k (by omega)
    have hw3 : wl S (rs S p + k) = L := by rw [hw3, hLe]
    have hL4 : L < 4 := by rw [← hw3]; exact (wl_lt w _ hrt).1
    refine Y_iload 42 rfl (pc2 := 81) rfl rfl ?_
    refine Y_sipush 43 rfl (pc2 := 84) rfl (v := nI 144) (by decide) ?_
    refine Y_icmp_gen 44 rfl (pc2 := 87) rfl (tgt := 148) (by decide) (by omega) (by omega) (fun h84 => ?_) (fun h84 => ?_)
    · omega
    · refine Y_iload 45 rfl (pc2 := 89) rfl rfl ?_
      refine Y_iload_n 46 rfl (pc2 := 90) rfl rfl ?_
      refine Y_icmp_ne 47 rfl (pc2 := 93) rfl (tgt := 95) (by decide) (fun h90 => ?_) (fun h90 => ?_)
      · refine Y_aload_n 50 rfl (pc2 := 96) rfl rfl ?_
        refine Y_dup 51 rfl (pc2 := 97) rfl rfl ?_
        refine Y_getI 52 rfl (pc2 := 100) rfl fl_wa_21 ly_wa (by decide) rfl ?_
        refine Y_top (wk_t) ?_
        refine Y_aload_n 53 rfl (pc2 := 101) rfl rfl ?_
        refine Y_aload_n 54 rfl (pc2 := 102) rfl rfl ?_
        refine Y_getI 55 rfl (pc2 := 105) rfl fl_wa_9 ly_wa (by decide) rfl ?_
        refine Y_top (wk_c) ?_
        refine Y_aald 56 rfl (pc2 := 106) rfl ly_ghC (by decide) (fun _ => rfl) rfl (by omega) (by decide) (ly_ghC_at (by omega)) (by omega) ?_
        refine Y_getI 57 rfl (pc2 := 109) rfl fl_wa_43 (ly_ci (by omega)) (by decide) rfl ?_
        refine Y_top (((RC_wk h).b _ (by omega)).trans (w.b _ (by omega)).1) ?_
        refine Y_bipush 58 rfl (pc2 := 111) rfl (v := nI 32) (by decide) ?_
        refine Y_aload_n 59 rfl (pc2 := 112) rfl rfl ?_
        refine Y_getI 60 rfl (pc2 := 115) rfl fl_wa_15 ly_wa (by decide) rfl ?_
        refine Y_top (wk_l) ?_
        refine Y_ishl 61 rfl (pc2 := 116) rfl ?_
        refine Y_top (sh_32 hL4) ?_
        refine Y_imul 62 rfl (pc2 := 117) rfl ?_
        refine Y_top (nI_mul _ _) ?_
        refine Y_iadd 63 rfl (pc2 := 118) rfl ?_
        refine Y_top (nI_add _ _) ?_
        refine Y_putI 64 rfl (pc2 := 121) rfl fl_wa_21 ly_wa (by decide) ⟨rfl, rfl⟩ ⟨_, _, _, rfl, rfl⟩ rfl ?_
        refine Y_mem wk_st ?_
        refine Y_aload_n 65 rfl (pc2 := 122) rfl rfl ?_
        refine Y_aload_n 66 rfl (pc2 := 123) rfl rfl ?_
        refine Y_getR 67 rfl (pc2 := 126) rfl fl_wa_48 ly_pi (by decide) rfl rfl (by omega) ?_
        refine Y_iload 68 rfl (pc2 := 128) rfl rfl ?_
        refine Y_iald 69 rfl (pc2 := 129) rfl ly_piS rfl (by omega) (by decide) ?_
        refine Y_top ((RC_wk h).sg _ (by omega)) ?_
        refine Y_aload_n 70 rfl (pc2 := 130) rfl rfl ?_
        refine Y_getI 71 rfl (pc2 := 133) rfl fl_wa_15 ly_wa (by decide) rfl ?_
        refine Y_top (wk_l) ?_
        refine Y_cS 72 rfl (pc2 := 136) rfl ok_wa_toldOr lk_wa_36 vs_wa_toldOr (as := [.int _, .int _]) (rest := [.ref _]) rfl rfl T_wa_toldOr ?_
        rintro _ _ ⟨rfl, rfl⟩
        change Y _ _ _ _ _ [.int _, .ref _] _ _
        refine Y_top (oC_or (w.r _ (by omega))) ?_
        refine Y_putI 73 rfl (pc2 := 139) rfl fl_wa_15 ly_wa (by decide) ⟨rfl, rfl⟩ ⟨_, _, _, rfl, rfl⟩ rfl ?_
        refine Y_mem wk_sl ?_
        refine Y_iinc 74 rfl (pc2 := 142) rfl rfl (nI_inc _ 1) (ls2 := [some (.ref _), some (.ref _), some (.ref _), some (.int _), some (.int _), some (.int _)]) rfl ?_
        refine Y_iinc 75 rfl (pc2 := 145) rfl rfl (nI_inc _ 1) (ls2 := [some (.ref _), some (.ref _), some (.ref _), some (.int _), some (.int _), some (.int _)]) rfl ?_
        refine Y_goto 76 rfl (pc2 := 65) (by decide) ?_
        have e1 : plv S (rs S p + (k + 1)) = sg S (rs S p + k) L := by show sg S (rs S p + k) (wl S (rs S p + k)) = _; rw [hw3]
        have e2 : ptk S (rs S p + (k + 1)) = ptk S (rs S p + k) + bt S (pC S p) * (32 * 2 ^ L) := by show wt S (rs S p + k) + bt S (pC S (wp S (rs S p + k))) * (32 * 2 ^ wl S (rs S p + k)) = _; rw [hw3, hw1, wt_is]
        have hi := ih (k + 1) (by omega) (by omega) _ (by rw [if_neg (by omega)]) (fun r hr => if e : r < rs S p + k then hg r e else by rw [show r = rs S p + k by omega]; exact fun q => h90 q.symm)
        rw [e1, e2] at hi
        exact hi
      · refine Y_iconst 48 rfl (pc2 := 94) rfl (v := nI 1) (by decide) ?_
        refine Y_iret 49 rfl rfl rfl ⟨rfl, ?_⟩
        exact Or.inl ⟨rs S p + k, by have := su_mono (f := pT S) (a := p + 1) (pn S) (by omega); have e : rs S (p + 1) = rs S p + pT S p := rfl; unfold tot; unfold rs at *; omega, (by first | exact h90.symm | exact (Classical.byContradiction h90).symm), rfl, by rw [hw1, hw3, wt_is]⟩

set_option maxHeartbeats 400000 in
theorem L_outer {G : Nat × (Nat → Int32)} {m : Mm} {S : Mm} (h : RC m S) (w : WF S) {gl : Int32} : ∀ p, p ≤ pn S → (∀ r, r < rs S p → ¬ gl = nI r) → ∀ (c : Int32) (u : Option Value), Y G M_wa_reaches (0, 0) 18 [some (.ref 13), some (.ref 8), some (.ref 6), some (.int gl), some (.int (nI (rs S p))), u] [] (LAY, wk m c (nI (plv S (rs S p))) (nI p) (nI (ptk S (rs S p)))) (qm_ LAY (pW m S gl)) := by
  have hp16 := w.p.2
  refine ind_ (fun p hp ih hg c u => ?_)
  refine Y_aload_n 11 rfl (pc2 := 19) rfl rfl ?_
  refine Y_getI 12 rfl (pc2 := 22) rfl fl_wa_18 ly_wa (by decide) rfl ?_
  refine Y_top (wk_p) ?_
  refine Y_aload_n 13 rfl (pc2 := 23) rfl rfl ?_
  refine Y_getI 14 rfl (pc2 := 26) rfl fl_wa_24 ly_pi (by decide) rfl ?_
  refine Y_top ((RC_wk h).p.trans w.p.1) ?_
  refine Y_icmp_gen 15 rfl (pc2 := 29) rfl (tgt := 161) (by decide) (by omega) (by omega) (fun h26 => ?_) (fun h26 => ?_)
  · refine Y_iconst 84 rfl (pc2 := 162) rfl (v := nI 0) (by decide) ?_
    refine Y_iret 85 rfl rfl rfl ⟨rfl, ?_⟩
    refine Or.inr ⟨?_, rfl, c, nI (plv S (rs S p)), nI p, ?_⟩
    · rintro ⟨r, hr, e⟩
      exact hg r (by unfold tot at hr; rw [show p = pn S by omega]; exact hr) e
    · rw [show tot S = rs S p by rw [show p = pn S by omega]; rfl]
  · refine Y_aload_n 16 rfl (pc2 := 30) rfl rfl ?_
    refine Y_aload_n 17 rfl (pc2 := 31) rfl rfl ?_
    refine Y_getR 18 rfl (pc2 := 34) rfl fl_wa_29 ly_pi (by decide) rfl rfl (by omega) ?_
    refine Y_aload_n 19 rfl (pc2 := 35) rfl rfl ?_
    refine Y_getI 20 rfl (pc2 := 38) rfl fl_wa_18 ly_wa (by decide) rfl ?_
    refine Y_top (wk_p) ?_
    refine Y_iald 21 rfl (pc2 := 39) rfl ly_piC rfl (by omega) (by decide) ?_
    refine Y_top (((RC_wk h).c _ (by omega)).trans (w.c _ (by omega)).1) ?_
    refine Y_putI 22 rfl (pc2 := 42) rfl fl_wa_9 ly_wa (by decide) ⟨rfl, rfl⟩ ⟨_, _, _, rfl, rfl⟩ rfl ?_
    refine Y_mem wk_sc ?_
    refine Y_aload_n 23 rfl (pc2 := 43) rfl rfl ?_
    refine Y_aload_n 24 rfl (pc2 := 44) rfl rfl ?_
    refine Y_getR 25 rfl (pc2 := 47) rfl fl_wa_33 ly_pi (by decide) rfl rfl (by omega) ?_
    refine Y_aload_n 26 rfl (pc2 := 48) rfl rfl ?_
    refine Y_getI 27 rfl (pc2 := 51) rfl fl_wa_18 ly_wa (by decide) rfl ?_
    refine Y_top (wk_p) ?_
    refine Y_iald 28 rfl (pc2 := 52) rfl ly_piL rfl (by omega) (by decide) ?_
    refine Y_top ((RC_wk h).pl _ (by omega)) ?_
    refine Y_aload_n 29 rfl (pc2 := 53) rfl rfl ?_
    refine Y_getI 30 rfl (pc2 := 56) rfl fl_wa_15 ly_wa (by decide) rfl ?_
    refine Y_top (wk_l) ?_
    refine Y_cS 31 rfl (pc2 := 59) rfl ok_wa_toldOr lk_wa_36 vs_wa_toldOr (as := [.int _, .int _]) (rest := [.ref _]) rfl rfl T_wa_toldOr ?_
    rintro _ _ ⟨rfl, rfl⟩
    change Y _ _ _ _ _ [.int _, .ref _] _ _
    refine Y_top (oC_or (w.l _ (by omega))) ?_
    refine Y_putI 32 rfl (pc2 := 62) rfl fl_wa_15 ly_wa (by decide) ⟨rfl, rfl⟩ ⟨_, _, _, rfl, rfl⟩ rfl ?_
    refine Y_mem wk_sl ?_
    refine Y_iconst 33 rfl (pc2 := 63) rfl (v := nI 0) (by decide) ?_
    refine Y_istore 34 rfl (pc2 := 65) rfl (Nat.le_of_ble_eq_true rfl) (ls2 := [some (.ref _), some (.ref _), some (.ref _), some (.int _), some (.int _), some (.int _)]) rfl ?_
    exact L_inner h w (by omega) (fun a b c => ih (p + 1) (by omega) (by omega) a b c) 0 (Nat.zero_le _) _ rfl hg

set_option maxHeartbeats 400000 in
theorem T_wa_reaches {G : Nat × (Nat → Int32)} {m : Mm} {S : Mm} (h : RC m S) (w : WF S) {gl : Int32} : Y G M_wa_reaches (0, 0) 0 (en_ M_wa_reaches [.ref 13, .ref 8, .ref 6, .int gl]) [] (LAY, m) (qm_ LAY (pW m S gl)) := by
  change Y _ _ _ _ [some (.ref _), some (.ref _), some (.ref _), some (.int _), none, none] _ _ _
  refine Y_iconst 0 rfl (pc2 := 1) rfl (v := nI 0) (by decide) ?_
  refine Y_istore 1 rfl (pc2 := 3) rfl (Nat.le_of_ble_eq_true rfl) (ls2 := [some (.ref _), some (.ref _), some (.ref _), some (.int _), some (.int _), none]) rfl ?_
  refine Y_mem wk_id ?_
  refine Y_aload_n 2 rfl (pc2 := 4) rfl rfl ?_
  refine Y_iconst 3 rfl (pc2 := 5) rfl (v := nI 0) (by decide) ?_
  refine Y_putI 4 rfl (pc2 := 8) rfl fl_wa_15 ly_wa (by decide) ⟨rfl, rfl⟩ ⟨_, _, _, rfl, rfl⟩ rfl ?_
  refine Y_mem wk_sl ?_
  refine Y_aload_n 5 rfl (pc2 := 9) rfl rfl ?_
  refine Y_iconst 6 rfl (pc2 := 10) rfl (v := nI 0) (by decide) ?_
  refine Y_putI 7 rfl (pc2 := 13) rfl fl_wa_21 ly_wa (by decide) ⟨rfl, rfl⟩ ⟨_, _, _, rfl, rfl⟩ rfl ?_
  refine Y_mem wk_st ?_
  refine Y_aload_n 8 rfl (pc2 := 14) rfl rfl ?_
  refine Y_iconst 9 rfl (pc2 := 15) rfl (v := nI 0) (by decide) ?_
  refine Y_putI 10 rfl (pc2 := 18) rfl fl_wa_18 ly_wa (by decide) ⟨rfl, rfl⟩ ⟨_, _, _, rfl, rfl⟩ rfl ?_
  refine Y_mem wk_sp ?_
  exact L_outer h w 0 (Nat.zero_le _) (fun r hr => absurd hr (Nat.not_lt_zero r)) _ _
