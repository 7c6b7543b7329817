/-! the reference: tune -/
def w2 (m : Mm) (c i : Nat) (q : Qt) : Mm := ur_ (ur_ m 155 (wri (m 155) (32 * c) i q.2.1)) 156 (wri (m 156) (32 * c) i q.2.2)
set_option maxHeartbeats 400000 in
theorem w2_0 {m : Mm} {c : Nat} {q : Qt} : m = w2 m c 0 q := by
  unfold w2
  have h1 : ur_ m 155 (wri (m 155) (32 * c) 0 q.2.1) = m := wri_0.symm
  rw [h1]
  exact wri_0
set_option maxHeartbeats 400000 in
theorem w2_s {m : Mm} {c i : Nat} {q : Qt} : uw_ (uw_ (w2 m c i q) 155 (32 * c + i) (q.2.1 i)) 156 (32 * c + i) (q.2.2 i) = w2 m c (i + 1) q := by
  have h1 : uw_ (w2 m c i q) 155 (32 * c + i) (q.2.1 i) = ur_ (ur_ m 155 (wri (m 155) (32 * c) (i + 1) q.2.1)) 156 (wri (m 156) (32 * c) i q.2.2) := by
    rw [← wri_s (m := m) (a := 155)]
    funext a k
    by_cases e : a = 156
    · subst e
      rw [uw_ne (by omega), ur_same]
      unfold w2
      rw [ur_same]
    · rw [ur_ne e]
      by_cases e2 : a = 155 ∧ k = 32 * c + i
      · obtain ⟨rfl, rfl⟩ := e2
        rw [uw_same, uw_same]
      · rw [uw_ne e2, uw_ne e2]
        unfold w2
        rw [ur_ne e]
  rw [h1]
  have h2 := wri_s (m := ur_ m 155 (wri (m 155) (32 * c) (i + 1) q.2.1)) (a := 156) (b0 := 32 * c) (i := i) (f := q.2.2)
  exact h2
set_option maxHeartbeats 400000 in
theorem w2_ne {m : Mm} {c i a : Nat} {q : Qt} (h : ¬ (a = 155 ∨ a = 156)) : w2 m c i q a = m a := by
  unfold w2
  rw [ur_ne (by omega), ur_ne (by omega)]

set_option maxHeartbeats 400000 in
theorem L_tuneM {G : Nat × (Nat → Int32)} {m m2 S2 : Mm} {c p : Nat} {q : Qt} (hc : c < 4) (hn : q.1 ≤ 32) (hQ : MTq m2 q p) (hfr : ∀ a, a < 153 → m2 a = m a) (hRM : RM (w2 m2 c q.1 q) S2) {u v : Option Value} : ∀ i, i ≤ q.1 → Y G M_mo_tune (0, 0) 63 [some (.ref 153), some (.int (nI c)), u, v, some (.int (nI i))] [] (LAY, w2 m2 c i q) (qm_ LAY (pm_ (nI q.1) m S2)) := by
  refine ind_ (fun i hi ih => ?_)
  refine Y_iload 36 rfl (pc2 := 65) rfl rfl ?_
  refine Y_aload_n 37 rfl (pc2 := 66) rfl rfl ?_
  refine Y_getI 38 rfl (pc2 := 69) rfl fl_mo_87 ly_mo (by decide) rfl ?_
  refine Y_top ((congrFun (w2_ne (by omega)) 16).trans hQ.2.1) ?_
  refine Y_icmp_gen 39 rfl (pc2 := 72) rfl (tgt := 116) (by decide) (by omega) (by omega) (fun h69 => ?_) (fun h69 => ?_)
  · refine Y_aload_n 66 rfl (pc2 := 117) rfl rfl ?_
    refine Y_getI 67 rfl (pc2 := 120) rfl fl_mo_87 ly_mo (by decide) rfl ?_
    refine Y_top ((congrFun (w2_ne (by omega)) 16).trans hQ.2.1) ?_
    refine Y_iret 68 rfl rfl rfl ⟨rfl, ?_⟩
    dsimp only
    refine ⟨rfl, ?_, fun a ha => by rw [w2_ne (by omega)]; exact hfr a ha⟩
    rw [show i = q.1 by omega]
    exact hRM
  · refine Y_aload_n 40 rfl (pc2 := 73) rfl rfl ?_
    refine Y_getR 41 rfl (pc2 := 76) rfl fl_mo_13 ly_mo (by decide) rfl rfl (by omega) ?_
    refine Y_bipush 42 rfl (pc2 := 78) rfl (v := nI 32) (by decide) ?_
    refine Y_iload_n 43 rfl (pc2 := 79) rfl rfl ?_
    refine Y_imul 44 rfl (pc2 := 80) rfl ?_
    refine Y_top (nI_mul _ _) ?_
    refine Y_iload 45 rfl (pc2 := 82) rfl rfl ?_
    refine Y_iadd 46 rfl (pc2 := 83) rfl ?_
    refine Y_top (nI_add _ _) ?_
    refine Y_aload_n 47 rfl (pc2 := 84) rfl rfl ?_
    refine Y_getR 48 rfl (pc2 := 87) rfl fl_mo_50 ly_mo (by decide) rfl rfl (by omega) ?_
    refine Y_iload 49 rfl (pc2 := 89) rfl rfl ?_
    refine Y_iald 50 rfl (pc2 := 90) rfl ly_mo_newNotes rfl (by omega) (by decide) ?_
    refine Y_top ((congrFun (w2_ne (by omega)) _).trans (hQ.2.2 i (by omega) (by omega)).1) ?_
    refine Y_iast 51 rfl (pc2 := 91) rfl ly_mo_notes rfl (by omega) (by decide) rfl ?_
    refine Y_aload_n 52 rfl (pc2 := 92) rfl rfl ?_
    refine Y_getR 53 rfl (pc2 := 95) rfl fl_mo_16 ly_mo (by decide) rfl rfl (by omega) ?_
    refine Y_bipush 54 rfl (pc2 := 97) rfl (v := nI 32) (by decide) ?_
    refine Y_iload_n 55 rfl (pc2 := 98) rfl rfl ?_
    refine Y_imul 56 rfl (pc2 := 99) rfl ?_
    refine Y_top (nI_mul _ _) ?_
    refine Y_iload 57 rfl (pc2 := 101) rfl rfl ?_
    refine Y_iadd 58 rfl (pc2 := 102) rfl ?_
    refine Y_top (nI_add _ _) ?_
    refine Y_aload_n 59 rfl (pc2 := 103) rfl rfl ?_
    refine Y_getR 60 rfl (pc2 := 106) rfl fl_mo_53 ly_mo (by decide) rfl rfl (by omega) ?_
    refine Y_iload 61 rfl (pc2 := 108) rfl rfl ?_
    refine Y_iald 62 rfl (pc2 := 109) rfl ly_mo_newGongs rfl (by omega) (by decide) ?_
    refine Y_top ((uw_ne (by omega)).trans ((congrFun (w2_ne (by omega)) _).trans (hQ.2.2 i (by omega) (by omega)).2)) ?_
    refine Y_iast 63 rfl (pc2 := 110) rfl ly_mo_gongs rfl (by omega) (by decide) rfl ?_
    refine Y_iinc 64 rfl (pc2 := 113) rfl rfl (nI_inc _ 1) (ls2 := [some (.ref _), some (.int _), _, _, some (.int _)]) rfl ?_
    refine Y_goto 65 rfl (pc2 := 63) (by decide) ?_
    exact Y_mem w2_s (ih (i + 1) (by omega) (by omega))

set_option maxHeartbeats 400000 in
theorem RM_tn {m m1 S : Mm} {c : Nat} {q : Qt} (h : RM m S) (hF : fM m m1) : RM (w2 (uw_ (uw_ m1 153 12 (nI 0)) 154 c (nI q.1)) c q.1 q) (tnS S c q) := by
  have h1 := RM_fM h hF
  refine ⟨fun a h2 h3 => ?_, ?_, ?_⟩
  · by_cases e1 : a = 155
    · subst e1
      have z : uw_ (uw_ m1 153 12 (nI 0)) 154 c (nI q.1) 155 = S 155 := funext fun k => by rw [uw_ne (by omega), uw_ne (by omega)]; exact h1.e (by decide) (by decide)
      unfold w2
      rw [ur_ne (by decide)]
      funext k
      rw [ur_same, z]
      rfl
    · by_cases e2 : a = 156
      · subst e2
        have z : uw_ (uw_ m1 153 12 (nI 0)) 154 c (nI q.1) 156 = S 156 := funext fun k => by rw [uw_ne (by omega), uw_ne (by omega)]; exact h1.e (by decide) (by decide)
        unfold w2
        funext k
        rw [ur_same, z]
        rfl
      · rw [w2_ne (by omega)]
        funext k
        have z : tnS S c q a k = uw_ S 154 c (nI q.1) a k := by
          show uw_ (ur_ (ur_ (uw_ S 154 c (nI q.1)) 155 _) 156 _) 153 12 (nI 0) a k = _
          rw [uw_ne (by omega), ur_ne e2, ur_ne e1]
        rw [z]
        by_cases e3 : a = 154 ∧ k = c
        · obtain ⟨rfl, rfl⟩ := e3
          rw [uw_same, uw_same]
        · rw [uw_ne e3, uw_ne e3, uw_ne (by omega)]
          exact h1.e h2 h3
  · rw [w2_ne (by decide), uw_ne (by omega), uw_ne (by omega)]
    exact h1.2.1
  · rw [w2_ne (by decide), uw_ne (by omega), uw_same]
    rfl

set_option maxHeartbeats 400000 in
theorem T_mo_tune {G : Nat × (Nat → Int32)} {m : Mm} {S : Mm} (h : RM m S) (w : WF S) {x : Int32} : Y G M_mo_tune (0, 0) 0 (en_ M_mo_tune [.ref (153), .int (x)]) [] (LAY, m) (qm_ LAY (pm_ (sp_tune S x) m (st_tune S x))) := by
  change Y _ _ _ _ [some (.ref _), some (.int _), none, none, none] _ _ _
  refine Y_aload_n 0 rfl (pc2 := 1) rfl rfl ?_
  refine Y_cV 1 rfl (pc2 := 4) rfl ok_mo_readTune lk_mo_108 vi_mo_readTune ly_mo rfl (by decide) rfl (as := []) (rest := []) rfl rfl (T_mo_readTune h w) ?_
  rintro _ _ ⟨hF, ⟨rfl, p, hp, hr⟩ | ⟨rfl, hno, hle, p, hQ⟩⟩
  · change Y _ _ _ _ _ [.int _] _ _
    have h1 := RM_12 (v := nI 0) (RM_fM h hF)
    refine Y_istore_n 2 rfl (pc2 := 5) rfl (Nat.le_of_ble_eq_true rfl) (ls2 := [some (.ref _), some (.int _), some (.int _), none, none]) rfl ?_
    refine Y_aload_n 3 rfl (pc2 := 6) rfl rfl ?_
    refine Y_getI 4 rfl (pc2 := 9) rfl fl_mo_80 ly_mo (by decide) rfl ?_
    refine Y_top (hr) ?_
    refine Y_istore_n 5 rfl (pc2 := 10) rfl (Nat.le_of_ble_eq_true rfl) (ls2 := [some (.ref _), some (.int _), some (.int _), some (.int _), none]) rfl ?_
    refine Y_aload_n 6 rfl (pc2 := 11) rfl rfl ?_
    refine Y_iconst 7 rfl (pc2 := 12) rfl (v := nI 0) (by decide) ?_
    refine Y_putI 8 rfl (pc2 := 15) rfl fl_mo_70 ly_mo (by decide) ⟨rfl, rfl⟩ ⟨_, _, _, rfl, rfl⟩ rfl ?_
    refine Y_iload_n 9 rfl (pc2 := 16) rfl rfl ?_
    refine Y_cS 10 rfl (pc2 := 19) rfl ok_mo_isCircle lk_mo_66 vs_mo_isCircle (as := [.int _]) (rest := []) rfl rfl T_mo_isCircle ?_
    rintro _ _ ⟨rfl, rfl⟩
    change Y _ _ _ _ _ [.int _] _ _
    refine Y_if_neb 11 rfl (pc2 := 22) rfl (tgt := 25) (by decide) (fun h19 => ?_) (fun h19 => ?_)
    · obtain ⟨c, hc, rfl⟩ := h19
      refine Y_iload_n 14 rfl (pc2 := 26) rfl rfl ?_
      refine Y_if_nen 15 rfl (pc2 := 29) rfl (tgt := 34) (by decide) (by decide) (fun hd => absurd hd (by decide)) (fun _ => ?_)
      refine Y_bipush 16 rfl (pc2 := 31) rfl (v := -100) (by decide) ?_
      refine Y_iload_n 17 rfl (pc2 := 32) rfl rfl ?_
      refine Y_isub 18 rfl (pc2 := 33) rfl ?_
      refine Y_iret 19 rfl rfl rfl ⟨rfl, ?_⟩
      dsimp only
      exact ⟨by unfold sp_tune; rw [cI_t ⟨c, hc, rfl⟩, hp], by unfold st_tune; rw [cI_f (fun e => by have z := e.2.1; rw [hp] at z; cases z)]; exact h1, fun a ha => by rw [← fM_lo hF ha]; funext k; rw [uw_ne (by omega)]⟩
    · refine Y_ldc 12 rfl (pc2 := 24) rfl kc_mo_79 ?_
      refine Y_iret 13 rfl rfl rfl ⟨rfl, ?_⟩
      dsimp only
      first | exact ⟨by unfold sp_tune; rw [cI_f h19]; rfl, by unfold st_tune; rw [cI_f (fun e => h19 e.1)]; exact h1, fun a ha => by rw [← fM_lo hF ha]; funext k; rw [uw_ne (by omega)]⟩
  · change Y _ _ _ _ _ [.int _] _ _
    have h1 := RM_12 (v := nI 0) (RM_fM h hF)
    have hr := hQ.1
    refine Y_istore_n 2 rfl (pc2 := 5) rfl (Nat.le_of_ble_eq_true rfl) (ls2 := [some (.ref _), some (.int _), some (.int _), none, none]) rfl ?_
    refine Y_aload_n 3 rfl (pc2 := 6) rfl rfl ?_
    refine Y_getI 4 rfl (pc2 := 9) rfl fl_mo_80 ly_mo (by decide) rfl ?_
    refine Y_top (hr) ?_
    refine Y_istore_n 5 rfl (pc2 := 10) rfl (Nat.le_of_ble_eq_true rfl) (ls2 := [some (.ref _), some (.int _), some (.int _), some (.int _), none]) rfl ?_
    refine Y_aload_n 6 rfl (pc2 := 11) rfl rfl ?_
    refine Y_iconst 7 rfl (pc2 := 12) rfl (v := nI 0) (by decide) ?_
    refine Y_putI 8 rfl (pc2 := 15) rfl fl_mo_70 ly_mo (by decide) ⟨rfl, rfl⟩ ⟨_, _, _, rfl, rfl⟩ rfl ?_
    refine Y_iload_n 9 rfl (pc2 := 16) rfl rfl ?_
    refine Y_cS 10 rfl (pc2 := 19) rfl ok_mo_isCircle lk_mo_66 vs_mo_isCircle (as := [.int _]) (rest := []) rfl rfl T_mo_isCircle ?_
    rintro _ _ ⟨rfl, rfl⟩
    change Y _ _ _ _ _ [.int _] _ _
    refine Y_if_neb 11 rfl (pc2 := 22) rfl (tgt := 25) (by decide) (fun h19 => ?_) (fun h19 => ?_)
    · obtain ⟨c, hc, rfl⟩ := h19
      refine Y_iload_n 14 rfl (pc2 := 26) rfl rfl ?_
      refine Y_if_nen 15 rfl (pc2 := 29) rfl (tgt := 34) (by decide) (by decide) (fun _ => ?_) (fun hd => absurd hd (by decide))
      refine Y_aload_n 20 rfl (pc2 := 35) rfl rfl ?_
      refine Y_getI 21 rfl (pc2 := 38) rfl fl_mo_87 ly_mo (by decide) rfl ?_
      refine Y_top ((uw_ne (by omega)).trans hQ.2.1) ?_
      refine Y_iconst 22 rfl (pc2 := 39) rfl (v := nI 2) (by decide) ?_
      refine Y_bipush 23 rfl (pc2 := 41) rfl (v := nI 32) (by decide) ?_
      refine Y_cS 24 rfl (pc2 := 44) rfl ok_mo_isIn lk_mo_62 vs_mo_isIn (as := [.int _, .int _, .int _]) (rest := []) rfl rfl T_mo_isIn ?_
      rintro _ _ ⟨rfl, rfl⟩
      change Y _ _ _ _ _ [.int _] _ _
      refine Y_if_neb 25 rfl (pc2 := 47) rfl (tgt := 50) (by decide) (fun h44 => ?_) (fun h44 => ?_)
      · have hin : 2 ≤ (rT S).2.1 ∧ (rT S).2.1 ≤ 32 := ⟨(nI_leI (by decide) (by omega)).mp h44.1, (nI_leI (by omega) (by decide)).mp h44.2⟩
        refine Y_aload_n 28 rfl (pc2 := 51) rfl rfl ?_
        refine Y_getR 29 rfl (pc2 := 54) rfl fl_mo_7 ly_mo (by decide) rfl rfl (by omega) ?_
        refine Y_iload_n 30 rfl (pc2 := 55) rfl rfl ?_
        refine Y_aload_n 31 rfl (pc2 := 56) rfl rfl ?_
        refine Y_getI 32 rfl (pc2 := 59) rfl fl_mo_87 ly_mo (by decide) rfl ?_
        refine Y_top ((uw_ne (by omega)).trans hQ.2.1) ?_
        refine Y_iast 33 rfl (pc2 := 60) rfl ly_mo_beats rfl (by omega) (by decide) rfl ?_
        refine Y_iconst 34 rfl (pc2 := 61) rfl (v := nI 0) (by decide) ?_
        refine Y_istore 35 rfl (pc2 := 63) rfl (Nat.le_of_ble_eq_true rfl) (ls2 := [some (.ref _), some (.int _), some (.int _), some (.int _), some (.int _)]) rfl ?_
        have e1 : sp_tune S (nI c) = nI (rT S).2.1 := by
          unfold sp_tune
          rw [cI_t ⟨c, hc, rfl⟩, hno]
          show cI _ _ _ = _
          rw [cI_t hin]
        have e2 : st_tune S (nI c) = tnS S c (rT S).2 := by
          unfold st_tune
          rw [cI_t ⟨⟨c, hc, rfl⟩, hno, hin⟩, nv_nI (by omega)]
        rw [e1, e2]
        refine Y_mem (w2_0 (c := c) (q := (rT S).2)) (L_tuneM hc hin.2 (p := p) ⟨(uw_ne (by omega)).trans ((uw_ne (by omega)).trans hQ.1), (uw_ne (by omega)).trans ((uw_ne (by omega)).trans hQ.2.1), fun i a1 a2 => ⟨(uw_ne (by omega)).trans ((uw_ne (by omega)).trans (hQ.2.2 i a1 a2).1), (uw_ne (by omega)).trans ((uw_ne (by omega)).trans (hQ.2.2 i a1 a2).2)⟩⟩ (fun a ha => by rw [← fM_lo hF ha]; funext k; rw [uw_ne (by omega), uw_ne (by omega)]) ?_ 0 (Nat.zero_le _))
        exact RM_tn h hF
      · refine Y_ldc 26 rfl (pc2 := 49) rfl kc_mo_111 ?_
        refine Y_iret 27 rfl rfl rfl ⟨rfl, ?_⟩
        dsimp only
        have hni : ¬ (2 ≤ (rT S).2.1 ∧ (rT S).2.1 ≤ 32) := fun z => h44 ⟨(nI_leI (by decide) (by omega)).mpr z.1, (nI_leI (by omega) (by decide)).mpr z.2⟩
        exact ⟨by unfold sp_tune; rw [cI_t ⟨c, hc, rfl⟩, hno]; show _ = some (Value.int (cI _ _ _)); rw [cI_f hni]; rfl, by unfold st_tune; rw [cI_f (fun e => hni e.2.2)]; exact h1, fun a ha => by rw [← fM_lo hF ha]; funext k; rw [uw_ne (by omega)]⟩
    · refine Y_ldc 12 rfl (pc2 := 24) rfl kc_mo_79 ?_
      refine Y_iret 13 rfl rfl rfl ⟨rfl, ?_⟩
      dsimp only
      first | exact ⟨by unfold sp_tune; rw [cI_f h19]; rfl, by unfold st_tune; rw [cI_f (fun e => h19 e.1)]; exact h1, fun a ha => by rw [← fM_lo hF ha]; funext k; rw [uw_ne (by omega)]⟩
