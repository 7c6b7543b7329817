/-! the reference: strikes, count -/
noncomputable def cM (S : Mm) (c l q b : Nat) : Nat := cnt (fun s => ¬ plM S c l q b s < 0) (2 ^ (l + 1))
set_option maxHeartbeats 400000 in
theorem cnt_one {f : Nat → Prop} (h : ∀ s, 0 < s → ¬ f s) : ∀ n, 1 ≤ n → cnt f n = cI (f 0) 1 0
  | 0, hn => by omega
  | n + 1, _ => by
    by_cases e : n = 0
    · subst e
      show 0 + cI (f 0) 1 0 = _
      rw [Nat.zero_add]
    · rw [cnt_f (h n (by omega))]
      exact cnt_one h n (by omega)
set_option maxHeartbeats 400000 in
theorem su_cnt {P : Nat → Prop} : ∀ n, su (fun b => cI (P b) 1 0) n = cnt P n
  | 0 => rfl
  | n + 1 => by
    show su (fun b => cI (P b) 1 0) n + cI (P n) 1 0 = cnt P n + cI (P n) 1 0
    rw [su_cnt n]
set_option maxHeartbeats 400000 in
theorem st_val {S : Mm} (w : WF S) {c l q : Nat} (hc : c < 4) (hl : l < 4) (hq : q < 4) : nI (su (cM S c l q) (bt S c)) = (if q = 0 then nI (cnt (fun b => ¬ S 155 (32 * c + b) < 0) (bt S c)) else if q = 3 then nI (cnt (fun b => ¬ S 156 (32 * c + b) < 0) (bt S c)) else nI (su (fun b => cnt (fun s => ¬ S 157 (ix l (us S l (turn S c b)) (q - 1) s) = -9) (2 ^ (l + 1))) (bt S c))) := by
  have hz := sz_16 hl
  have hz2 := sz_2 (l := l)
  by_cases e : q = 0
  · rw [if_pos e, ← su_cnt]
    refine congrArg nI (su_congr _ (fun b hb => ?_))
    unfold cM
    rw [cnt_one (fun s hs => ?_) _ (by omega)]
    · congr 1
      unfold plM
      rw [if_pos (by omega), if_neg (by omega), if_pos e]
    · unfold plM
      rw [if_pos (by omega), if_pos hs]
      exact fun z => z (by decide)
  · rw [if_neg e]
    by_cases e2 : q = 3
    · rw [if_pos e2, ← su_cnt]
      refine congrArg nI (su_congr _ (fun b hb => ?_))
      unfold cM
      rw [cnt_one (fun s hs => ?_) _ (by omega)]
      · congr 1
        unfold plM
        rw [if_pos (by omega), if_neg (by omega), if_neg e]
      · unfold plM
        rw [if_pos (by omega), if_pos hs]
        exact fun z => z (by decide)
    · rw [if_neg e2]
      refine congrArg nI (su_congr _ (fun b hb => ?_))
      refine cnt_congr _ (fun s hs => ?_)
      have hu := (w.u l (turn S c b) hl turn_lt).2
      have hn := kM_neg w hc hb hl hu (g := q - 1) (by omega) (s := s) (by omega)
      unfold plM
      rw [if_neg (by omega), hn.1]

set_option maxHeartbeats 400000 in
theorem L_strI {G : Nat × (Nat → Int32)} {m : Mm} {S : Mm} (h : RM m S) (w : WF S) {p l : Nat} (hp : p < 16) (hl : l < 4) (hmp : m 153 19 = nI p) (hml : m 153 20 = nI l) {q b : Nat} (hq : q < 4) (hb : b < bt S (pC S p)) {x : Int32} (HO : ∀ (u : Option Value), Y G M_mo_strikes (0, 0) 30 [some (.ref 153), some (.int (nI q)), some (.int x), some (.int (nI (su (cM S (pC S p) l q) (b + 1)))), some (.int (nI (b + 1))), u] [] (LAY, m) (qm_ LAY (pu_ (nI (su (cM S (pC S p) l q) (bt S (pC S p)))) m))) : ∀ s, s ≤ 2 ^ (l + 1) → Y G M_mo_strikes (0, 0) 52 [some (.ref 153), some (.int (nI q)), some (.int x), some (.int (nI (su (cM S (pC S p) l q) b + cnt (fun s => ¬ plM S (pC S p) l q b s < 0) s))), some (.int (nI b)), some (.int (nI s))] [] (LAY, m) (qm_ LAY (pu_ (nI (su (cM S (pC S p) l q) (bt S (pC S p)))) m)) := by
  have hc := (w.c p hp).2
  have hn := (w.b (pC S p) hc).2
  have hz := sz_16 hl
  refine ind_ (fun s hs ih => ?_)
  refine Y_iload 30 rfl (pc2 := 54) rfl rfl ?_
  refine Y_aload_n 31 rfl (pc2 := 55) rfl rfl ?_
  refine Y_getI 32 rfl (pc2 := 58) rfl fl_mo_158 ly_mo (by decide) rfl ?_
  refine Y_top (hml) ?_
  refine Y_cS 33 rfl (pc2 := 61) rfl ok_mo_stepsOf lk_mo_127 vs_mo_stepsOf (as := [.int _]) (rest := [.int _]) rfl rfl (T_mo_stepsOf (by omega)) ?_
  rintro _ _ ⟨rfl, rfl⟩
  change Y _ _ _ _ _ [.int _, .int _] _ _
  refine Y_icmp_gen 34 rfl (pc2 := 64) rfl (tgt := 90) (by decide) (by omega) (by omega) (fun h61 => ?_) (fun h61 => ?_)
  · refine Y_iinc 49 rfl (pc2 := 93) rfl rfl (nI_inc _ 1) (ls2 := [some (.ref _), some (.int _), some (.int _), some (.int _), some (.int _), some (.int _)]) rfl ?_
    refine Y_goto 50 rfl (pc2 := 30) (by decide) ?_
    rw [show s = 2 ^ (l + 1) by omega]
    exact HO _
  · refine Y_iload_n 35 rfl (pc2 := 65) rfl rfl ?_
    refine Y_aload_n 36 rfl (pc2 := 66) rfl rfl ?_
    refine Y_iload_n 37 rfl (pc2 := 67) rfl rfl ?_
    refine Y_iload 38 rfl (pc2 := 69) rfl rfl ?_
    refine Y_iload 39 rfl (pc2 := 71) rfl rfl ?_
    refine Y_cV 40 rfl (pc2 := 74) rfl ok_mo_playedNow lk_mo_183 vi_mo_playedNow ly_mo rfl (by decide) rfl (as := [.int _, .int _, .int _]) (rest := [.int _]) rfl rfl (T_mo_playedNow h w hp hl hmp hml hq hb (by omega)) ?_
    rintro _ _ ⟨rfl, rfl⟩
    change Y _ _ _ _ _ [.int _, .int _] _ _
    refine Y_if_ge 41 rfl (pc2 := 77) rfl (tgt := 81) (by decide) (fun h74 => ?_) (fun h74 => ?_)
    · refine Y_iconst 44 rfl (pc2 := 82) rfl (v := nI 1) (by decide) ?_
      refine Y_iadd 45 rfl (pc2 := 83) rfl ?_
      refine Y_top (nI_add _ _) ?_
      refine Y_istore_n 46 rfl (pc2 := 84) rfl (Nat.le_of_ble_eq_true rfl) (ls2 := [some (.ref _), some (.int _), some (.int _), some (.int _), some (.int _), some (.int _)]) rfl ?_
      refine Y_iinc 47 rfl (pc2 := 87) rfl rfl (nI_inc _ 1) (ls2 := [some (.ref _), some (.int _), some (.int _), some (.int _), some (.int _), some (.int _)]) rfl ?_
      refine Y_goto 48 rfl (pc2 := 52) (by decide) ?_
      first
        | exact Y_ls (by rw [cnt_t (f := (fun s => ¬ plM S (pC S p) l q b s < 0)) (Int32.not_lt.mpr h74), Nat.add_assoc]) (ih (s + 1) (by omega) (by omega))
        | exact Y_ls (by rw [cnt_f (f := (fun s => ¬ plM S (pC S p) l q b s < 0)) (fun e => e (Int32.not_le.mp h74)), Nat.add_zero]) (ih (s + 1) (by omega) (by omega))
    · refine Y_iconst 42 rfl (pc2 := 78) rfl (v := nI 0) (by decide) ?_
      refine Y_goto 43 rfl (pc2 := 82) (by decide) ?_
      refine Y_iadd 45 rfl (pc2 := 83) rfl ?_
      refine Y_top (nI_add _ _) ?_
      refine Y_istore_n 46 rfl (pc2 := 84) rfl (Nat.le_of_ble_eq_true rfl) (ls2 := [some (.ref _), some (.int _), some (.int _), some (.int _), some (.int _), some (.int _)]) rfl ?_
      refine Y_iinc 47 rfl (pc2 := 87) rfl rfl (nI_inc _ 1) (ls2 := [some (.ref _), some (.int _), some (.int _), some (.int _), some (.int _), some (.int _)]) rfl ?_
      refine Y_goto 48 rfl (pc2 := 52) (by decide) ?_
      first
        | exact Y_ls (by rw [cnt_t (f := (fun s => ¬ plM S (pC S p) l q b s < 0)) (Int32.not_lt.mpr h74), Nat.add_assoc]) (ih (s + 1) (by omega) (by omega))
        | exact Y_ls (by rw [cnt_f (f := (fun s => ¬ plM S (pC S p) l q b s < 0)) (fun e => e (Int32.not_le.mp h74)), Nat.add_zero]) (ih (s + 1) (by omega) (by omega))

set_option maxHeartbeats 400000 in
theorem L_strO {G : Nat × (Nat → Int32)} {m : Mm} {S : Mm} (h : RM m S) (w : WF S) {p l : Nat} (hp : p < 16) (hl : l < 4) (hmp : m 153 19 = nI p) (hml : m 153 20 = nI l) {q : Nat} (hq : q < 4) {x : Int32} : ∀ b, b ≤ bt S (pC S p) → ∀ (u : Option Value), Y G M_mo_strikes (0, 0) 30 [some (.ref 153), some (.int (nI q)), some (.int x), some (.int (nI (su (cM S (pC S p) l q) b))), some (.int (nI b)), u] [] (LAY, m) (qm_ LAY (pu_ (nI (su (cM S (pC S p) l q) (bt S (pC S p)))) m)) := by
  have hc := (w.c p hp).2
  have hn := (w.b (pC S p) hc).2
  have hz := sz_16 hl
  refine ind_ (fun b hb ih u => ?_)
  refine Y_iload 18 rfl (pc2 := 32) rfl rfl ?_
  refine Y_aload_n 19 rfl (pc2 := 33) rfl rfl ?_
  refine Y_getR 20 rfl (pc2 := 36) rfl fl_mo_7 ly_mo (by decide) rfl rfl (by omega) ?_
  refine Y_aload_n 21 rfl (pc2 := 37) rfl rfl ?_
  refine Y_getR 22 rfl (pc2 := 40) rfl fl_mo_29 ly_mo (by decide) rfl rfl (by omega) ?_
  refine Y_aload_n 23 rfl (pc2 := 41) rfl rfl ?_
  refine Y_getI 24 rfl (pc2 := 44) rfl fl_mo_155 ly_mo (by decide) rfl ?_
  refine Y_top (hmp) ?_
  refine Y_iald 25 rfl (pc2 := 45) rfl ly_mo_pCircle rfl (by omega) (by decide) ?_
  refine Y_top ((h.e (by decide) (by decide)).trans (w.c _ (by omega)).1) ?_
  refine Y_iald 26 rfl (pc2 := 46) rfl ly_mo_beats rfl (by omega) (by decide) ?_
  refine Y_top ((h.e (by decide) (by decide)).trans (w.b _ (by omega)).1) ?_
  refine Y_icmp_gen 27 rfl (pc2 := 49) rfl (tgt := 96) (by decide) (by omega) (by omega) (fun h46 => ?_) (fun h46 => ?_)
  · refine Y_iload_n 51 rfl (pc2 := 97) rfl rfl ?_
    refine Y_iret 52 rfl rfl rfl ⟨rfl, ?_⟩
    dsimp only
    exact pu_i (by rw [show b = bt S (pC S p) by omega])
  · refine Y_iconst 28 rfl (pc2 := 50) rfl (v := nI 0) (by decide) ?_
    refine Y_istore 29 rfl (pc2 := 52) rfl (Nat.le_of_ble_eq_true rfl) (ls2 := [some (.ref _), some (.int _), some (.int _), some (.int _), some (.int _), some (.int _)]) rfl ?_
    exact L_strI h w hp hl hmp hml hq (by omega) (fun u => ih (b + 1) (by omega) (by omega) u) 0 (Nat.zero_le _)

set_option maxHeartbeats 400000 in
theorem T_mo_strikes {G : Nat × (Nat → Int32)} {m : Mm} {S : Mm} (h : RM m S) (w : WF S) {p x : Int32} : Y G M_mo_strikes (0, 0) 0 (en_ M_mo_strikes [.ref (153), .int (p), .int (x)]) [] (LAY, m) (qm_ LAY (pm_ (sp_strikes S p x) m S)) := by
  change Y _ _ _ _ [some (.ref _), some (.int _), some (.int _), none, none, none] _ _ _
  have h144 := tot_le w
  refine Y_iload_n 0 rfl (pc2 := 1) rfl rfl ?_
  refine Y_iconst 1 rfl (pc2 := 2) rfl (v := nI 0) (by decide) ?_
  refine Y_iconst 2 rfl (pc2 := 3) rfl (v := nI 3) (by decide) ?_
  refine Y_cS 3 rfl (pc2 := 6) rfl ok_mo_isIn lk_mo_62 vs_mo_isIn (as := [.int _, .int _, .int _]) (rest := []) rfl rfl (T_mo_isIn0 (by omega)) ?_
  rintro _ _ ⟨rfl, rfl⟩
  change Y _ _ _ _ _ [.int _] _ _
  refine Y_if_eqb 4 rfl (pc2 := 9) rfl (tgt := 17) (by decide) (fun h6 => ?_) (fun h6 => ?_)
  · refine Y_ldc 9 rfl (pc2 := 19) rfl kc_mo_79 ?_
    refine Y_iret 10 rfl rfl rfl ⟨rfl, ?_⟩
    dsimp only
    first | exact pm_0 h (by unfold sp_strikes; rw [cI_f (fun e => h6 e.1)]; rfl) | exact pm_0 h (by unfold sp_strikes; rw [cI_f (fun e => h14 e.2)]; rfl)
  · obtain ⟨q, hq, rfl⟩ := h6
    refine Y_aload_n 5 rfl (pc2 := 10) rfl rfl ?_
    refine Y_iload_n 6 rfl (pc2 := 11) rfl rfl ?_
    refine Y_cV 7 rfl (pc2 := 14) rfl ok_mo_isRound lk_mo_164 vi_mo_isRound ly_mo rfl (by decide) rfl (as := [.int _]) (rest := []) rfl rfl (T_mo_isRound h w) ?_
    rintro _ _ ⟨rfl, rfl⟩
    change Y _ _ _ _ _ [.int _] _ _
    refine Y_if_neb 8 rfl (pc2 := 17) rfl (tgt := 20) (by decide) (fun h14 => ?_) (fun h14 => ?_)
    · obtain ⟨r, hr, rfl⟩ := h14
      refine Y_aload_n 11 rfl (pc2 := 21) rfl rfl ?_
      refine Y_iload_n 12 rfl (pc2 := 22) rfl rfl ?_
      refine Y_cV 13 rfl (pc2 := 25) rfl ok_mo_goTo lk_mo_167 vi_mo_goTo ly_mo rfl (by decide) rfl (as := [.int _]) (rest := []) rfl rfl (T_mo_goTo h w hr) ?_
      rintro _ _ ⟨rfl, rfl⟩
      change Y _ _ _ _ _ [] _ _
      have hL := wl_lt w r hr
      have hp16 := w.p.2
      have hC : cA_ S r < 4 := (w.c (wp S r) (by omega)).2
      have hC2 : pC S (wp S r) < 4 := hC
      have hB := (w.b (cA_ S r) hC).2
      have hB2 : 2 ≤ bt S (pC S (wp S r)) ∧ bt S (pC S (wp S r)) ≤ 32 := hB
      have hZ := sz_16 hL.1
      refine Y_iconst 14 rfl (pc2 := 26) rfl (v := nI 0) (by decide) ?_
      refine Y_istore_n 15 rfl (pc2 := 27) rfl (Nat.le_of_ble_eq_true rfl) (ls2 := [some (.ref _), some (.int _), some (.int _), some (.int _), none, none]) rfl ?_
      refine Y_iconst 16 rfl (pc2 := 28) rfl (v := nI 0) (by decide) ?_
      refine Y_istore 17 rfl (pc2 := 30) rfl (Nat.le_of_ble_eq_true rfl) (ls2 := [some (.ref _), some (.int _), some (.int _), some (.int _), some (.int _), none]) rfl ?_
      have e1 : sp_strikes S (nI q) (nI r) = nI (su (cM S (pC S (wp S r)) (wl S r) q) (bt S (pC S (wp S r)))) := by
        unfold sp_strikes
        rw [cI_t ⟨⟨q, hq, rfl⟩, ⟨r, hr, rfl⟩⟩, nv_nI (k := q) (by omega), nv_nI (k := r) (by omega)]
        exact (st_val w hC hL.1 hq).symm
      rw [e1]
      exact (L_strO (RM_gk h) w (by omega) hL.1 gk_p gk_l hq 0 (Nat.zero_le _) _).mono (fun v σ hq => ⟨hq.1, hq.2.1, by rw [← hq.2.2]; exact RM_gk h, fun a ha => by rw [← hq.2.2]; exact gk_ne (by omega)⟩)
    · refine Y_ldc 9 rfl (pc2 := 19) rfl kc_mo_79 ?_
      refine Y_iret 10 rfl rfl rfl ⟨rfl, ?_⟩
      dsimp only
      first | exact pm_0 h (by unfold sp_strikes; rw [cI_f (fun e => h6 e.1)]; rfl) | exact pm_0 h (by unfold sp_strikes; rw [cI_f (fun e => h14 e.2)]; rfl)

set_option maxHeartbeats 400000 in
theorem L_cnt0 {G : Nat × (Nat → Int32)} {m : Mm} {S : Mm} (h : RM m S) (w : WF S) {x : Int32} {u : Option Value} : ∀ i, i ≤ 4 → Y G M_mo_count (0, 0) 46 [some (.ref 153), some (.int x), some (.int (nI (su (bt S) i))), some (.int (nI i)), u] [] (LAY, m) (qm_ LAY (pu_ (nI (su (bt S) 4)) m)) := by
  refine ind_ (fun i hi ih => ?_)
  refine Y_iload_n 6 rfl (pc2 := 47) rfl rfl ?_
  refine Y_iconst 7 rfl (pc2 := 48) rfl (v := nI 4) (by decide) ?_
  refine Y_icmp_gen 8 rfl (pc2 := 51) rfl (tgt := 66) (by decide) (by omega) (by omega) (fun h48 => ?_) (fun h48 => ?_)
  · refine Y_iload_n 18 rfl (pc2 := 67) rfl rfl ?_
    refine Y_iret 19 rfl rfl rfl ⟨rfl, ?_⟩
    dsimp only
    exact pu_i (by rw [show i = 4 by omega])
  · refine Y_iload_n 9 rfl (pc2 := 52) rfl rfl ?_
    refine Y_aload_n 10 rfl (pc2 := 53) rfl rfl ?_
    refine Y_getR 11 rfl (pc2 := 56) rfl fl_mo_7 ly_mo (by decide) rfl rfl (by omega) ?_
    refine Y_iload_n 12 rfl (pc2 := 57) rfl rfl ?_
    refine Y_iald 13 rfl (pc2 := 58) rfl ly_mo_beats rfl (by omega) (by decide) ?_
    refine Y_top ((h.e (by decide) (by decide)).trans (w.b _ (by omega)).1) ?_
    refine Y_iadd 14 rfl (pc2 := 59) rfl ?_
    refine Y_top (nI_add _ _) ?_
    refine Y_istore_n 15 rfl (pc2 := 60) rfl (Nat.le_of_ble_eq_true rfl) (ls2 := [some (.ref _), some (.int _), some (.int _), some (.int _), _]) rfl ?_
    refine Y_iinc 16 rfl (pc2 := 63) rfl rfl (nI_inc _ 1) (ls2 := [some (.ref _), some (.int _), some (.int _), some (.int _), _]) rfl ?_
    refine Y_goto 17 rfl (pc2 := 46) (by decide) ?_
    exact ih (i + 1) (by omega) (by omega)

set_option maxHeartbeats 400000 in
theorem L_cnt1i {G : Nat × (Nat → Int32)} {m : Mm} {S : Mm} (h : RM m S) (w : WF S) {x : Int32} {c : Nat} (hc : c < 4) (HO : ∀ (u : Option Value), Y G M_mo_count (0, 0) 70 [some (.ref 153), some (.int x), some (.int (nI (su (fun c => cnt (fun b => ¬ S 156 (32 * c + b) < 0) (bt S c)) (c + 1)))), some (.int (nI (c + 1))), u] [] (LAY, m) (qm_ LAY (pu_ (nI (su (fun c => cnt (fun b => ¬ S 156 (32 * c + b) < 0) (bt S c)) 4)) m))) : ∀ b, b ≤ bt S c → Y G M_mo_count (0, 0) 78 [some (.ref 153), some (.int x), some (.int (nI (su (fun c => cnt (fun b => ¬ S 156 (32 * c + b) < 0) (bt S c)) c + cnt (fun b => ¬ S 156 (32 * c + b) < 0) b))), some (.int (nI c)), some (.int (nI b))] [] (LAY, m) (qm_ LAY (pu_ (nI (su (fun c => cnt (fun b => ¬ S 156 (32 * c + b) < 0) (bt S c)) 4)) m)) := by
  have hn := (w.b c hc).2
  refine ind_ (fun b hb ih => ?_)
  refine Y_iload 27 rfl (pc2 := 80) rfl rfl ?_
  refine Y_aload_n 28 rfl (pc2 := 81) rfl rfl ?_
  refine Y_getR 29 rfl (pc2 := 84) rfl fl_mo_7 ly_mo (by decide) rfl rfl (by omega) ?_
  refine Y_iload_n 30 rfl (pc2 := 85) rfl rfl ?_
  refine Y_iald 31 rfl (pc2 := 86) rfl ly_mo_beats rfl (by omega) (by decide) ?_
  refine Y_top ((h.e (by decide) (by decide)).trans (w.b _ (by omega)).1) ?_
  refine Y_icmp_gen 32 rfl (pc2 := 89) rfl (tgt := 118) (by decide) (by omega) (by omega) (fun h86 => ?_) (fun h86 => ?_)
  · refine Y_iinc 50 rfl (pc2 := 121) rfl rfl (nI_inc _ 1) (ls2 := [some (.ref _), some (.int _), some (.int _), some (.int _), some (.int _)]) rfl ?_
    refine Y_goto 51 rfl (pc2 := 70) (by decide) ?_
    rw [show b = bt S c by omega]
    exact HO _
  · refine Y_iload_n 33 rfl (pc2 := 90) rfl rfl ?_
    refine Y_aload_n 34 rfl (pc2 := 91) rfl rfl ?_
    refine Y_getR 35 rfl (pc2 := 94) rfl fl_mo_16 ly_mo (by decide) rfl rfl (by omega) ?_
    refine Y_bipush 36 rfl (pc2 := 96) rfl (v := nI 32) (by decide) ?_
    refine Y_iload_n 37 rfl (pc2 := 97) rfl rfl ?_
    refine Y_imul 38 rfl (pc2 := 98) rfl ?_
    refine Y_top (nI_mul _ _) ?_
    refine Y_iload 39 rfl (pc2 := 100) rfl rfl ?_
    refine Y_iadd 40 rfl (pc2 := 101) rfl ?_
    refine Y_top (nI_add _ _) ?_
    refine Y_iald 41 rfl (pc2 := 102) rfl ly_mo_gongs rfl (by omega) (by decide) ?_
    refine Y_top (h.e (by decide) (by decide)) ?_
    refine Y_if_ge 42 rfl (pc2 := 105) rfl (tgt := 109) (by decide) (fun h102 => ?_) (fun h102 => ?_)
    · refine Y_iconst 45 rfl (pc2 := 110) rfl (v := nI 1) (by decide) ?_
      refine Y_iadd 46 rfl (pc2 := 111) rfl ?_
      refine Y_top (nI_add _ _) ?_
      refine Y_istore_n 47 rfl (pc2 := 112) rfl (Nat.le_of_ble_eq_true rfl) (ls2 := [some (.ref _), some (.int _), some (.int _), some (.int _), some (.int _)]) rfl ?_
      refine Y_iinc 48 rfl (pc2 := 115) rfl rfl (nI_inc _ 1) (ls2 := [some (.ref _), some (.int _), some (.int _), some (.int _), some (.int _)]) rfl ?_
      refine Y_goto 49 rfl (pc2 := 78) (by decide) ?_
      first
        | exact Y_ls (by rw [cnt_t (f := (fun b => ¬ S 156 (32 * c + b) < 0)) (Int32.not_lt.mpr h102), Nat.add_assoc]) (ih (b + 1) (by omega) (by omega))
        | exact Y_ls (by rw [cnt_f (f := (fun b => ¬ S 156 (32 * c + b) < 0)) (fun e => e (Int32.not_le.mp h102)), Nat.add_zero]) (ih (b + 1) (by omega) (by omega))
    · refine Y_iconst 43 rfl (pc2 := 106) rfl (v := nI 0) (by decide) ?_
      refine Y_goto 44 rfl (pc2 := 110) (by decide) ?_
      refine Y_iadd 46 rfl (pc2 := 111) rfl ?_
      refine Y_top (nI_add _ _) ?_
      refine Y_istore_n 47 rfl (pc2 := 112) rfl (Nat.le_of_ble_eq_true rfl) (ls2 := [some (.ref _), some (.int _), some (.int _), some (.int _), some (.int _)]) rfl ?_
      refine Y_iinc 48 rfl (pc2 := 115) rfl rfl (nI_inc _ 1) (ls2 := [some (.ref _), some (.int _), some (.int _), some (.int _), some (.int _)]) rfl ?_
      refine Y_goto 49 rfl (pc2 := 78) (by decide) ?_
      first
        | exact Y_ls (by rw [cnt_t (f := (fun b => ¬ S 156 (32 * c + b) < 0)) (Int32.not_lt.mpr h102), Nat.add_assoc]) (ih (b + 1) (by omega) (by omega))
        | exact Y_ls (by rw [cnt_f (f := (fun b => ¬ S 156 (32 * c + b) < 0)) (fun e => e (Int32.not_le.mp h102)), Nat.add_zero]) (ih (b + 1) (by omega) (by omega))

set_option maxHeartbeats 400000 in
theorem L_cnt1 {G : Nat × (Nat → Int32)} {m : Mm} {S : Mm} (h : RM m S) (w : WF S) {x : Int32} : ∀ c, c ≤ 4 → ∀ (u : Option Value), Y G M_mo_count (0, 0) 70 [some (.ref 153), some (.int x), some (.int (nI (su (fun c => cnt (fun b => ¬ S 156 (32 * c + b) < 0) (bt S c)) c))), some (.int (nI c)), u] [] (LAY, m) (qm_ LAY (pu_ (nI (su (fun c => cnt (fun b => ¬ S 156 (32 * c + b) < 0) (bt S c)) 4)) m)) := by
  refine ind_ (fun c hc ih u => ?_)
  refine Y_iload_n 22 rfl (pc2 := 71) rfl rfl ?_
  refine Y_iconst 23 rfl (pc2 := 72) rfl (v := nI 4) (by decide) ?_
  refine Y_icmp_gen 24 rfl (pc2 := 75) rfl (tgt := 124) (by decide) (by omega) (by omega) (fun h72 => ?_) (fun h72 => ?_)
  · refine Y_iload_n 52 rfl (pc2 := 125) rfl rfl ?_
    refine Y_iret 53 rfl rfl rfl ⟨rfl, ?_⟩
    dsimp only
    exact pu_i (by rw [show c = 4 by omega])
  · refine Y_iconst 25 rfl (pc2 := 76) rfl (v := nI 0) (by decide) ?_
    refine Y_istore 26 rfl (pc2 := 78) rfl (Nat.le_of_ble_eq_true rfl) (ls2 := [some (.ref _), some (.int _), some (.int _), some (.int _), some (.int _)]) rfl ?_
    exact L_cnt1i h w (by omega) (fun u => ih (c + 1) (by omega) (by omega) u) 0 (Nat.zero_le _)

set_option maxHeartbeats 400000 in
theorem L_cnt2 {G : Nat × (Nat → Int32)} {m : Mm} {S : Mm} (h : RM m S) (w : WF S) {x : Int32} {u : Option Value} : ∀ i, i ≤ 24 → Y G M_mo_count (0, 0) 128 [some (.ref 153), some (.int x), some (.int (nI (cnt (fun k => wS S (k / 6) (k % 6) = 2 ^ (k / 6 + 1)) i))), some (.int (nI i)), u] [] (LAY, m) (qm_ LAY (pu_ (nI (cnt (fun k => wS S (k / 6) (k % 6) = 2 ^ (k / 6 + 1)) 24)) m)) := by
  refine ind_ (fun i hi ih => ?_)
  refine Y_iload_n 56 rfl (pc2 := 129) rfl rfl ?_
  refine Y_bipush 57 rfl (pc2 := 131) rfl (v := nI 24) (by decide) ?_
  refine Y_icmp_gen 58 rfl (pc2 := 134) rfl (tgt := 163) (by decide) (by omega) (by omega) (fun h131 => ?_) (fun h131 => ?_)
  · refine Y_iload_n 76 rfl (pc2 := 164) rfl rfl ?_
    refine Y_iret 77 rfl rfl rfl ⟨rfl, ?_⟩
    dsimp only
    exact pu_i (by rw [show i = 24 by omega])
  · refine Y_iload_n 59 rfl (pc2 := 135) rfl rfl ?_
    refine Y_aload_n 60 rfl (pc2 := 136) rfl rfl ?_
    refine Y_iload_n 61 rfl (pc2 := 137) rfl rfl ?_
    refine Y_bipush 62 rfl (pc2 := 139) rfl (v := nI 6) (by decide) ?_
    refine Y_idiv 63 rfl (pc2 := 140) rfl (by exact nI_ne0 (by omega) (by omega)) ?_
    refine Y_top (nI_div (by omega) (by omega)) ?_
    refine Y_iload_n 64 rfl (pc2 := 141) rfl rfl ?_
    refine Y_bipush 65 rfl (pc2 := 143) rfl (v := nI 6) (by decide) ?_
    refine Y_irem 66 rfl (pc2 := 144) rfl (by exact nI_ne0 (by omega) (by omega)) ?_
    refine Y_top (nI_rem (by omega) (by omega)) ?_
    refine Y_cV 67 rfl (pc2 := 147) rfl ok_mo_wrongStep lk_mo_143 vi_mo_wrongStep ly_mo rfl (by decide) rfl (as := [.int _, .int _]) (rest := [.int _]) rfl rfl (T_mo_wrongStep h w (by omega) (by omega)) ?_
    rintro _ _ ⟨rfl, rfl⟩
    change Y _ _ _ _ _ [.int _, .int _] _ _
    refine Y_if_ge 68 rfl (pc2 := 150) rfl (tgt := 154) (by decide) (fun h147 => ?_) (fun h147 => ?_)
    · refine Y_iconst 71 rfl (pc2 := 155) rfl (v := nI 0) (by decide) ?_
      refine Y_iadd 72 rfl (pc2 := 156) rfl ?_
      refine Y_top (nI_add _ _) ?_
      refine Y_istore_n 73 rfl (pc2 := 157) rfl (Nat.le_of_ble_eq_true rfl) (ls2 := [some (.ref _), some (.int _), some (.int _), some (.int _), _]) rfl ?_
      refine Y_iinc 74 rfl (pc2 := 160) rfl rfl (nI_inc _ 1) (ls2 := [some (.ref _), some (.int _), some (.int _), some (.int _), _]) rfl ?_
      refine Y_goto 75 rfl (pc2 := 128) (by decide) ?_
      first
        | exact Y_ls (by rw [cnt_t (f := (fun k => wS S (k / 6) (k % 6) = 2 ^ (k / 6 + 1))) ((wM_neg (by omega)).mp (Int32.not_le.mp h147))]) (ih (i + 1) (by omega) (by omega))
        | exact Y_ls (by rw [cnt_f (f := (fun k => wS S (k / 6) (k % 6) = 2 ^ (k / 6 + 1))) (fun e => Int32.not_lt.mpr h147 ((wM_neg (by omega)).mpr e)), Nat.add_zero]) (ih (i + 1) (by omega) (by omega))
    · refine Y_iconst 69 rfl (pc2 := 151) rfl (v := nI 1) (by decide) ?_
      refine Y_goto 70 rfl (pc2 := 155) (by decide) ?_
      refine Y_iadd 72 rfl (pc2 := 156) rfl ?_
      refine Y_top (nI_add _ _) ?_
      refine Y_istore_n 73 rfl (pc2 := 157) rfl (Nat.le_of_ble_eq_true rfl) (ls2 := [some (.ref _), some (.int _), some (.int _), some (.int _), _]) rfl ?_
      refine Y_iinc 74 rfl (pc2 := 160) rfl rfl (nI_inc _ 1) (ls2 := [some (.ref _), some (.int _), some (.int _), some (.int _), _]) rfl ?_
      refine Y_goto 75 rfl (pc2 := 128) (by decide) ?_
      first
        | exact Y_ls (by rw [cnt_t (f := (fun k => wS S (k / 6) (k % 6) = 2 ^ (k / 6 + 1))) ((wM_neg (by omega)).mp (Int32.not_le.mp h147))]) (ih (i + 1) (by omega) (by omega))
        | exact Y_ls (by rw [cnt_f (f := (fun k => wS S (k / 6) (k % 6) = 2 ^ (k / 6 + 1))) (fun e => Int32.not_lt.mpr h147 ((wM_neg (by omega)).mpr e)), Nat.add_zero]) (ih (i + 1) (by omega) (by omega))

set_option maxHeartbeats 400000 in
theorem cnt_fl {P : Nat → Nat → Prop} : ∀ L, cnt (fun k => P (k / 6) (k % 6)) (6 * L) = su (fun l => cnt (P l) 6) L := by
  have inner : ∀ L j, j ≤ 6 → cnt (fun k => P (k / 6) (k % 6)) (6 * L + j) = cnt (fun k => P (k / 6) (k % 6)) (6 * L) + cnt (P L) j := by
    intro L j
    induction j with
    | zero => intro _; rfl
    | succ j ih =>
      intro hj
      have e1 : (6 * L + j) / 6 = L := by omega
      have e2 : (6 * L + j) % 6 = j := by omega
      by_cases h : P L j
      · rw [cnt_t (f := P L) h, ← Nat.add_assoc (6 * L), cnt_t (f := fun k => P (k / 6) (k % 6)) (by show P ((6 * L + j) / 6) ((6 * L + j) % 6); rw [e1, e2]; exact h), ih (by omega)]; omega
      · rw [cnt_f (f := P L) h, ← Nat.add_assoc (6 * L), cnt_f (f := fun k => P (k / 6) (k % 6)) (by show ¬ P ((6 * L + j) / 6) ((6 * L + j) % 6); rw [e1, e2]; exact h), ih (by omega)]
  intro L
  induction L with
  | zero => rfl
  | succ L ih =>
    show _ = su (fun l => cnt (P l) 6) L + cnt (P L) 6
    rw [← ih, ← inner L 6 (Nat.le_refl 6)]
    congr 1

set_option maxHeartbeats 400000 in
theorem T_mo_count {G : Nat × (Nat → Int32)} {m : Mm} {S : Mm} (h : RM m S) (w : WF S) {x : Int32} : Y G M_mo_count (0, 0) 0 (en_ M_mo_count [.ref (153), .int (x)]) [] (LAY, m) (qm_ LAY (pm_ (sp_count S x) m S)) := by
  change Y _ _ _ _ [some (.ref _), some (.int _), none, none, none] _ _ _
  refine Y_iconst 0 rfl (pc2 := 1) rfl (v := nI 0) (by decide) ?_
  refine Y_istore_n 1 rfl (pc2 := 2) rfl (Nat.le_of_ble_eq_true rfl) (ls2 := [some (.ref _), some (.int _), some (.int _), none, none]) rfl ?_
  refine Y_iload_n 2 rfl (pc2 := 3) rfl rfl ?_
  refine Y_tsw 3 rfl (n := 7) (by decide) (by decide) rfl (by decide) (tgt := 185) (by decide) (fun h3 => ?_) (fun j hj h3 => ?_)
  · refine Y_ldc 90 rfl (pc2 := 187) rfl kc_mo_79 ?_
    refine Y_iret 91 rfl rfl rfl ⟨rfl, ?_⟩
    dsimp only
    exact pm_0 h (by unfold sp_count; rw [cI_f h3]; rfl)
  · have hj2 : j = 0 ∨ j = 1 ∨ j = 2 ∨ j = 3 ∨ j = 4 ∨ j = 5 ∨ j = 6 := by omega
    rcases hj2 with rfl | rfl | rfl | rfl | rfl | rfl | rfl
    · change Y _ _ _ 44 _ _ _ _
      subst h3
      refine Y_iconst 4 rfl (pc2 := 45) rfl (v := nI 0) (by decide) ?_
      refine Y_istore_n 5 rfl (pc2 := 46) rfl (Nat.le_of_ble_eq_true rfl) (ls2 := [some (.ref _), some (.int _), some (.int _), some (.int _), none]) rfl ?_
      unfold sp_count
      rw [cI_t ⟨0, by omega, rfl⟩, nv_nI (by omega), if_pos rfl]
      exact (L_cnt0 h w 0 (Nat.zero_le _)).mono (fun v σ hq => ⟨hq.1, hq.2.1, by rw [← hq.2.2]; exact h, fun a ha => by rw [← hq.2.2]⟩)
    · change Y _ _ _ 68 _ _ _ _
      subst h3
      refine Y_iconst 20 rfl (pc2 := 69) rfl (v := nI 0) (by decide) ?_
      refine Y_istore_n 21 rfl (pc2 := 70) rfl (Nat.le_of_ble_eq_true rfl) (ls2 := [some (.ref _), some (.int _), some (.int _), some (.int _), none]) rfl ?_
      unfold sp_count
      rw [cI_t ⟨1, by omega, rfl⟩, nv_nI (by omega), if_neg (by decide), if_pos rfl]
      exact (L_cnt1 h w 0 (Nat.zero_le _) _).mono (fun v σ hq => ⟨hq.1, hq.2.1, by rw [← hq.2.2]; exact h, fun a ha => by rw [← hq.2.2]⟩)
    · change Y _ _ _ 126 _ _ _ _
      subst h3
      refine Y_iconst 54 rfl (pc2 := 127) rfl (v := nI 0) (by decide) ?_
      refine Y_istore_n 55 rfl (pc2 := 128) rfl (Nat.le_of_ble_eq_true rfl) (ls2 := [some (.ref _), some (.int _), some (.int _), some (.int _), none]) rfl ?_
      unfold sp_count
      rw [cI_t ⟨2, by omega, rfl⟩, nv_nI (by omega), if_neg (by decide), if_neg (by decide), if_pos rfl]
      rw [← cnt_fl (P := fun l f => wS S l f = 2 ^ (l + 1)) 4]
      exact (L_cnt2 h w 0 (Nat.zero_le _)).mono (fun v σ hq => ⟨hq.1, hq.2.1, by rw [← hq.2.2]; exact h, fun a ha => by rw [← hq.2.2]⟩)
    · change Y _ _ _ 165 _ _ _ _
      subst h3
      refine Y_aload_n 78 rfl (pc2 := 166) rfl rfl ?_
      refine Y_getI 79 rfl (pc2 := 169) rfl fl_mo_146 ly_mo (by decide) rfl ?_
      refine Y_top (h.2.1) ?_
      refine Y_iret 80 rfl rfl rfl ⟨rfl, ?_⟩
      dsimp only
      exact pm_0 h (by unfold sp_count; rw [cI_t ⟨3, by omega, rfl⟩, nv_nI (by omega), if_neg (by decide), if_neg (by decide), if_neg (by decide), if_pos rfl])
    · change Y _ _ _ 170 _ _ _ _
      subst h3
      refine Y_aload_n 81 rfl (pc2 := 171) rfl rfl ?_
      refine Y_cV 82 rfl (pc2 := 174) rfl ok_mo_rounds lk_mo_152 vi_mo_rounds ly_mo rfl (by decide) rfl (as := []) (rest := []) rfl rfl (T_mo_rounds h w) ?_
      rintro _ _ ⟨rfl, rfl⟩
      change Y _ _ _ _ _ [.int _] _ _
      refine Y_iret 83 rfl rfl rfl ⟨rfl, ?_⟩
      dsimp only
      exact pm_0 h (by unfold sp_count; rw [cI_t ⟨4, by omega, rfl⟩, nv_nI (by omega), if_neg (by decide), if_neg (by decide), if_neg (by decide), if_neg (by decide), if_pos rfl])
    · change Y _ _ _ 175 _ _ _ _
      subst h3
      refine Y_aload_n 84 rfl (pc2 := 176) rfl rfl ?_
      refine Y_cV 85 rfl (pc2 := 179) rfl ok_mo_signalMany lk_mo_149 vi_mo_signalMany ly_mo rfl (by decide) rfl (as := []) (rest := []) rfl rfl (T_mo_signalMany h w) ?_
      rintro _ _ ⟨rfl, rfl⟩
      change Y _ _ _ _ _ [.int _] _ _
      refine Y_iret 86 rfl rfl rfl ⟨rfl, ?_⟩
      dsimp only
      exact pm_0 h (by unfold sp_count; rw [cI_t ⟨5, by omega, rfl⟩, nv_nI (by omega), if_neg (by decide), if_neg (by decide), if_neg (by decide), if_neg (by decide), if_neg (by decide), if_pos rfl])
    · change Y _ _ _ 180 _ _ _ _
      subst h3
      refine Y_aload_n 87 rfl (pc2 := 181) rfl rfl ?_
      refine Y_getI 88 rfl (pc2 := 184) rfl fl_mo_70 ly_mo (by decide) rfl ?_
      refine Y_top (h.2.2) ?_
      refine Y_iret 89 rfl rfl rfl ⟨rfl, ?_⟩
      dsimp only
      exact pm_0 h (by unfold sp_count; rw [cI_t ⟨6, by omega, rfl⟩, nv_nI (by omega), if_neg (by decide), if_neg (by decide), if_neg (by decide), if_neg (by decide), if_neg (by decide), if_neg (by decide)])
