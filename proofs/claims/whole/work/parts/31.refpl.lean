/-! the reference: what is played -/
set_option maxHeartbeats 400000 in
theorem mod_nxt {b n : Nat} (h : b < n) : (b + 1) % n = nxt n b := by
  unfold nxt
  by_cases e : b + 1 < n
  · rw [if_pos e, Nat.mod_eq_of_lt e]
  · rw [if_neg e, show b + 1 = n by omega, Nat.mod_self]
def kM (S : Mm) (c b l f g s : Nat) : Int32 := if S 157 (ix l f g s) = -9 then -1 else ky (tone S c b) (S 157 (ix l f g s))
def plM (S : Mm) (c l q b s : Nat) : Int32 := if q = 0 ∨ q = 3 then (if 0 < s then -1 else if q = 0 then S 155 (32 * c + b) else S 156 (32 * c + b)) else kM S c b l (us S l (turn S c b)) (q - 1) s
set_option maxHeartbeats 400000 in
theorem kM_neg {S : Mm} (w : WF S) {c b l f g s : Nat} (hc : c < 4) (hb : b < bt S c) (hl : l < 4) (hf : f < 6) (hg : g < 2) (hs : s < 16) : (kM S c b l f g s < 0 ↔ S 157 (ix l f g s) = -9) ∧ (¬ S 157 (ix l f g s) = -9 → iR (kM S c b l f g s) 10) := by
  unfold kM
  by_cases e : S 157 (ix l f g s) = -9
  · rw [if_pos e]
    exact ⟨⟨fun _ => e, fun _ => by decide⟩, fun q => absurd e q⟩
  · rw [if_neg e]
    rcases w.s (ix l f g s) (by unfold ix; omega) with q | ⟨j, hj, q⟩
    · exact absurd q e
    · obtain ⟨t, ht, e2⟩ := tone_iR w hc hb
      have hk : iR (ky (tone S c b) (S 157 (ix l f g s))) 10 := by rw [e2, q]; exact ky_nat ht hj
      exact ⟨⟨fun z => absurd z (iR_pos (by decide) hk), fun z => absurd z e⟩, fun _ => hk⟩
set_option maxHeartbeats 400000 in
theorem kA_M {S : Mm} (w : WF S) {c b l g s : Nat} (hc : c < 4) (hb : b < bt S c) (hl : l < 4) (hg : g < 2) (hs : s < 16) : kA S c l g b s = oC (kM S c b l (us S l (turn S c b)) g s) := by
  have hu := (w.u l (turn S c b) hl turn_lt).2
  have hn := kM_neg w hc hb hl hu hg hs
  unfold kA
  by_cases e : S 157 (ix l (us S l (turn S c b)) g s) = -9
  · rw [if_pos e, oC_no (hn.1.mpr e)]
  · rw [if_neg e, oC_id (mt hn.1.mp e)]
    unfold kM
    rw [if_neg e]
def hM (S : Mm) (c l q b : Nat) : Nat → Int32
  | 0 => -1
  | s + 1 => if plM S c l q b s < 0 then hM S c l q b s else plM S c l q b s
set_option maxHeartbeats 400000 in
theorem plM_h {S : Mm} {c l g b s : Nat} (hg : g < 2) : plM S c l (g + 1) b s = kM S c b l (us S l (turn S c b)) g s := by
  unfold plM
  rw [if_neg (by omega), Nat.add_sub_cancel]
set_option maxHeartbeats 400000 in
theorem kH_M {S : Mm} (w : WF S) {c b l g : Nat} (hc : c < 4) (hb : b < bt S c) (hl : l < 4) (hg : g < 2) : ∀ s, s ≤ 16 → kH S c l g b s = oC (hM S c l (g + 1) b s) ∧ oR (hM S c l (g + 1) b s) 10
  | 0, _ => ⟨rfl, Or.inl rfl⟩
  | s + 1, hs => by
    have ih := kH_M w hc hb hl hg s (by omega)
    have hu := (w.u l (turn S c b) hl turn_lt).2
    have hn := kM_neg w hc hb hl hu hg (s := s) (by omega)
    have ha := kA_M w hc hb hl hg (s := s) (by omega)
    have hor : oR (kM S c b l (us S l (turn S c b)) g s) 10 := by
      by_cases e : S 157 (ix l (us S l (turn S c b)) g s) = -9
      · unfold kM; rw [if_pos e]; exact Or.inl rfl
      · exact Or.inr (hn.2 e)
    have hz := oC_none (by decide) hor
    show (if kA S c l g b s = NONE_ then kH S c l g b s else kA S c l g b s) = oC (if plM S c l (g + 1) b s < 0 then hM S c l (g + 1) b s else plM S c l (g + 1) b s) ∧ oR (if plM S c l (g + 1) b s < 0 then hM S c l (g + 1) b s else plM S c l (g + 1) b s) 10
    rw [plM_h hg, ha]
    by_cases e : kM S c b l (us S l (turn S c b)) g s < 0
    · rw [if_pos e, if_pos (hz.mpr e)]; exact ih
    · rw [if_neg e, if_neg (mt hz.mp e)]; exact ⟨rfl, hor⟩

set_option maxHeartbeats 400000 in
theorem T_mo_turn {G : Nat × (Nat → Int32)} {m : Mm} {S : Mm} (h : RM m S) (w : WF S) {c b : Nat} (hc : c < 4) (hb : b < bt S c) : Y G M_mo_turn (0, 0) 0 (en_ M_mo_turn [.ref (153), .int (nI c), .int (nI b)]) [] (LAY, m) (qm_ LAY (pu_ (nI (turn S c b)) m)) := by
  change Y _ _ _ _ [some (.ref _), some (.int _), some (.int _), none, none] _ _ _
  have hn := (w.b c hc).2
  have hx : nxt (bt S c) b < bt S c := nxt_lt (by omega)
  refine Y_aload_n 0 rfl (pc2 := 1) rfl rfl ?_
  refine Y_iload_n 1 rfl (pc2 := 2) rfl rfl ?_
  refine Y_iload_n 2 rfl (pc2 := 3) rfl rfl ?_
  refine Y_cV 3 rfl (pc2 := 6) rfl ok_mo_tone lk_mo_120 vi_mo_tone ly_mo rfl (by decide) rfl (as := [.int _, .int _]) (rest := []) rfl rfl (T_mo_tone h w (by omega) (by omega)) ?_
  rintro _ _ ⟨rfl, rfl⟩
  change Y _ _ _ _ _ [.int _] _ _
  refine Y_istore_n 4 rfl (pc2 := 7) rfl (Nat.le_of_ble_eq_true rfl) (ls2 := [some (.ref _), some (.int _), some (.int _), some (.int _), none]) rfl ?_
  refine Y_aload_n 5 rfl (pc2 := 8) rfl rfl ?_
  refine Y_iload_n 6 rfl (pc2 := 9) rfl rfl ?_
  refine Y_iload_n 7 rfl (pc2 := 10) rfl rfl ?_
  refine Y_iconst 8 rfl (pc2 := 11) rfl (v := nI 1) (by decide) ?_
  refine Y_iadd 9 rfl (pc2 := 12) rfl ?_
  refine Y_top (nI_add _ _) ?_
  refine Y_aload_n 10 rfl (pc2 := 13) rfl rfl ?_
  refine Y_getR 11 rfl (pc2 := 16) rfl fl_mo_7 ly_mo (by decide) rfl rfl (by omega) ?_
  refine Y_iload_n 12 rfl (pc2 := 17) rfl rfl ?_
  refine Y_iald 13 rfl (pc2 := 18) rfl ly_mo_beats rfl (by omega) (by decide) ?_
  refine Y_top ((h.e (by decide) (by decide)).trans (w.b _ (by omega)).1) ?_
  refine Y_irem 14 rfl (pc2 := 19) rfl (by exact nI_ne0 (by omega) (by omega)) ?_
  refine Y_top (nI_rem (by omega) (by omega)) ?_
  refine Y_top (congrArg nI (mod_nxt hb)) ?_
  refine Y_cV 15 rfl (pc2 := 22) rfl ok_mo_tone lk_mo_120 vi_mo_tone ly_mo rfl (by decide) rfl (as := [.int _, .int _]) (rest := []) rfl rfl (T_mo_tone h w (by omega) (by omega)) ?_
  rintro _ _ ⟨rfl, rfl⟩
  change Y _ _ _ _ _ [.int _] _ _
  refine Y_istore 16 rfl (pc2 := 24) rfl (Nat.le_of_ble_eq_true rfl) (ls2 := [some (.ref _), some (.int _), some (.int _), some (.int _), some (.int _)]) rfl ?_
  refine Y_iload 17 rfl (pc2 := 26) rfl rfl ?_
  refine Y_iload_n 18 rfl (pc2 := 27) rfl rfl ?_
  refine Y_icmp_ne 19 rfl (pc2 := 30) rfl (tgt := 34) (by decide) (fun h27 => ?_) (fun h27 => ?_)
  · refine Y_iload 22 rfl (pc2 := 36) rfl rfl ?_
    refine Y_iload_n 23 rfl (pc2 := 37) rfl rfl ?_
    refine Y_icmp_le 24 rfl (pc2 := 40) rfl (tgt := 44) (by decide) (fun h37 => ?_) (fun h37 => ?_)
    · refine Y_iconst 27 rfl (pc2 := 45) rfl (v := nI 2) (by decide) ?_
      refine Y_iret 28 rfl rfl rfl ⟨rfl, ?_⟩
      dsimp only
      first
        | exact pu_i (by unfold turn turnR; rw [if_pos (by first | exact h27 | exact Classical.byContradiction h27)])
        | exact pu_i (by unfold turn turnR; rw [if_neg h27, if_neg (Int32.not_lt.mpr h37)])
        | exact pu_i (by unfold turn turnR; rw [if_neg h27, if_pos (Int32.not_le.mp h37)])
    · refine Y_iconst 25 rfl (pc2 := 41) rfl (v := nI 1) (by decide) ?_
      refine Y_goto 26 rfl (pc2 := 45) (by decide) ?_
      refine Y_iret 28 rfl rfl rfl ⟨rfl, ?_⟩
      dsimp only
      first
        | exact pu_i (by unfold turn turnR; rw [if_pos (by first | exact h27 | exact Classical.byContradiction h27)])
        | exact pu_i (by unfold turn turnR; rw [if_neg h27, if_neg (Int32.not_lt.mpr h37)])
        | exact pu_i (by unfold turn turnR; rw [if_neg h27, if_pos (Int32.not_le.mp h37)])
  · refine Y_iconst 20 rfl (pc2 := 31) rfl (v := nI 0) (by decide) ?_
    refine Y_goto 21 rfl (pc2 := 45) (by decide) ?_
    refine Y_iret 28 rfl rfl rfl ⟨rfl, ?_⟩
    dsimp only
    first
      | exact pu_i (by unfold turn turnR; rw [if_pos (by first | exact h27 | exact Classical.byContradiction h27)])
      | exact pu_i (by unfold turn turnR; rw [if_neg h27, if_neg (Int32.not_lt.mpr h37)])
      | exact pu_i (by unfold turn turnR; rw [if_neg h27, if_pos (Int32.not_le.mp h37)])

set_option maxHeartbeats 400000 in
theorem T_mo_struck {G : Nat × (Nat → Int32)} {m : Mm} {S : Mm} (h : RM m S) (w : WF S) {c b : Nat} (hc : c < 4) (hb : b < bt S c) {l f g s : Nat} (hl : l < 4) (hf : f < 6) (hg : g < 2) (hs : s < 16) : Y G M_mo_struck (0, 0) 0 (en_ M_mo_struck [.ref (153), .int (nI c), .int (nI b), .int (nI l), .int (nI f), .int (nI g), .int (nI s)]) [] (LAY, m) (qm_ LAY (pu_ (kM S c b l f g s) m)) := by
  change Y _ _ _ _ [some (.ref _), some (.int _), some (.int _), some (.int _), some (.int _), some (.int _), some (.int _), none] _ _ _
  refine Y_aload_n 0 rfl (pc2 := 1) rfl rfl ?_
  refine Y_getR 1 rfl (pc2 := 4) rfl fl_mo_19 ly_mo (by decide) rfl rfl (by omega) ?_
  refine Y_iload_n 2 rfl (pc2 := 5) rfl rfl ?_
  refine Y_iload 3 rfl (pc2 := 7) rfl rfl ?_
  refine Y_iload 4 rfl (pc2 := 9) rfl rfl ?_
  refine Y_iload 5 rfl (pc2 := 11) rfl rfl ?_
  refine Y_cS 6 rfl (pc2 := 14) rfl ok_mo_placeOf lk_mo_130 vs_mo_placeOf (as := [.int _, .int _, .int _, .int _]) (rest := [.ref _]) rfl rfl T_mo_placeOf ?_
  rintro _ _ ⟨rfl, rfl⟩
  change Y _ _ _ _ _ [.int _, .ref _] _ _
  refine Y_iald 7 rfl (pc2 := 15) rfl ly_mo_shifts rfl (by omega) (by decide) ?_
  refine Y_top (h.e (by decide) (by decide)) ?_
  refine Y_istore 8 rfl (pc2 := 17) rfl (Nat.le_of_ble_eq_true rfl) (ls2 := [some (.ref _), some (.int _), some (.int _), some (.int _), some (.int _), some (.int _), some (.int _), some (.int _)]) rfl ?_
  refine Y_iload 9 rfl (pc2 := 19) rfl rfl ?_
  refine Y_bipush 10 rfl (pc2 := 21) rfl (v := -9) (by decide) ?_
  refine Y_icmp_ne 11 rfl (pc2 := 24) rfl (tgt := 28) (by decide) (fun h21 => ?_) (fun h21 => ?_)
  · refine Y_aload_n 14 rfl (pc2 := 29) rfl rfl ?_
    refine Y_iload_n 15 rfl (pc2 := 30) rfl rfl ?_
    refine Y_iload_n 16 rfl (pc2 := 31) rfl rfl ?_
    refine Y_cV 17 rfl (pc2 := 34) rfl ok_mo_tone lk_mo_120 vi_mo_tone ly_mo rfl (by decide) rfl (as := [.int _, .int _]) (rest := []) rfl rfl (T_mo_tone h w (by omega) (by omega)) ?_
    rintro _ _ ⟨rfl, rfl⟩
    change Y _ _ _ _ _ [.int _] _ _
    refine Y_iload 18 rfl (pc2 := 36) rfl rfl ?_
    refine Y_cS 19 rfl (pc2 := 39) rfl ok_mo_key lk_mo_170 vs_mo_key (as := [.int _, .int _]) (rest := []) rfl rfl T_mo_key ?_
    rintro _ _ ⟨rfl, rfl⟩
    change Y _ _ _ _ _ [.int _] _ _
    refine Y_iret 20 rfl rfl rfl ⟨rfl, ?_⟩
    dsimp only
    first | exact pu_i (if_pos (by first | exact h21 | exact Classical.byContradiction h21)).symm | exact pu_i (if_neg h21).symm
  · refine Y_iconst 12 rfl (pc2 := 25) rfl (v := -1) (by decide) ?_
    refine Y_goto 13 rfl (pc2 := 39) (by decide) ?_
    refine Y_iret 20 rfl rfl rfl ⟨rfl, ?_⟩
    dsimp only
    first | exact pu_i (if_pos (by first | exact h21 | exact Classical.byContradiction h21)).symm | exact pu_i (if_neg h21).symm

set_option maxHeartbeats 400000 in
theorem T_mo_playedNow {G : Nat × (Nat → Int32)} {m : Mm} {S : Mm} (h : RM m S) (w : WF S) {p l : Nat} (hp : p < 16) (hl : l < 4) (hmp : m 153 19 = nI p) (hml : m 153 20 = nI l) {q b s : Nat} (hq : q < 4) (hb : b < bt S (pC S p)) (hs : s < 16) : Y G M_mo_playedNow (0, 0) 0 (en_ M_mo_playedNow [.ref (153), .int (nI q), .int (nI b), .int (nI s)]) [] (LAY, m) (qm_ LAY (pu_ (plM S (pC S p) l q b s) m)) := by
  change Y _ _ _ _ [some (.ref _), some (.int _), some (.int _), some (.int _), none] _ _ _
  have hc := (w.c p hp).2
  have hn := (w.b (pC S p) hc).2
  have hu := w.u l (turn S (pC S p) b) hl turn_lt
  have ht3 : turn S (pC S p) b < 3 := turn_lt
  refine Y_aload_n 0 rfl (pc2 := 1) rfl rfl ?_
  refine Y_getR 1 rfl (pc2 := 4) rfl fl_mo_29 ly_mo (by decide) rfl rfl (by omega) ?_
  refine Y_aload_n 2 rfl (pc2 := 5) rfl rfl ?_
  refine Y_getI 3 rfl (pc2 := 8) rfl fl_mo_155 ly_mo (by decide) rfl ?_
  refine Y_top (hmp) ?_
  refine Y_iald 4 rfl (pc2 := 9) rfl ly_mo_pCircle rfl (by omega) (by decide) ?_
  refine Y_top ((h.e (by decide) (by decide)).trans (w.c _ (by omega)).1) ?_
  refine Y_istore 5 rfl (pc2 := 11) rfl (Nat.le_of_ble_eq_true rfl) (ls2 := [some (.ref _), some (.int _), some (.int _), some (.int _), some (.int _)]) rfl ?_
  refine Y_iload_n 6 rfl (pc2 := 12) rfl rfl ?_
  refine Y_if_eqn 7 rfl (pc2 := 15) rfl (tgt := 20) (by decide) (by omega) (fun h12 => ?_) (fun h12 => ?_)
  · refine Y_iload_n 11 rfl (pc2 := 21) rfl rfl ?_
    refine Y_if_len 12 rfl (pc2 := 24) rfl (tgt := 28) (by decide) (by omega) (fun h21 => ?_) (fun h21 => ?_)
    · refine Y_iload_n 15 rfl (pc2 := 29) rfl rfl ?_
      refine Y_if_nen 16 rfl (pc2 := 32) rfl (tgt := 47) (by decide) (by omega) (fun h29 => ?_) (fun h29 => ?_)
      · refine Y_aload_n 26 rfl (pc2 := 48) rfl rfl ?_
        refine Y_getR 27 rfl (pc2 := 51) rfl fl_mo_16 ly_mo (by decide) rfl rfl (by omega) ?_
        refine Y_bipush 28 rfl (pc2 := 53) rfl (v := nI 32) (by decide) ?_
        refine Y_iload 29 rfl (pc2 := 55) rfl rfl ?_
        refine Y_imul 30 rfl (pc2 := 56) rfl ?_
        refine Y_top (nI_mul _ _) ?_
        refine Y_iload_n 31 rfl (pc2 := 57) rfl rfl ?_
        refine Y_iadd 32 rfl (pc2 := 58) rfl ?_
        refine Y_top (nI_add _ _) ?_
        refine Y_iald 33 rfl (pc2 := 59) rfl ly_mo_gongs rfl (by omega) (by decide) ?_
        refine Y_top (h.e (by decide) (by decide)) ?_
        refine Y_iret 34 rfl rfl rfl ⟨rfl, ?_⟩
        dsimp only
        first
          | (exfalso; omega)
          | exact pu_i (by unfold plM; rw [if_pos (by omega), if_pos (by omega)])
          | exact pu_i (by unfold plM; rw [if_pos (by omega), if_neg (by omega), if_pos (by omega)])
          | exact pu_i (by unfold plM; rw [if_pos (by omega), if_neg (by omega), if_neg (by omega)])
      · refine Y_aload_n 17 rfl (pc2 := 33) rfl rfl ?_
        refine Y_getR 18 rfl (pc2 := 36) rfl fl_mo_13 ly_mo (by decide) rfl rfl (by omega) ?_
        refine Y_bipush 19 rfl (pc2 := 38) rfl (v := nI 32) (by decide) ?_
        refine Y_iload 20 rfl (pc2 := 40) rfl rfl ?_
        refine Y_imul 21 rfl (pc2 := 41) rfl ?_
        refine Y_top (nI_mul _ _) ?_
        refine Y_iload_n 22 rfl (pc2 := 42) rfl rfl ?_
        refine Y_iadd 23 rfl (pc2 := 43) rfl ?_
        refine Y_top (nI_add _ _) ?_
        refine Y_iald 24 rfl (pc2 := 44) rfl ly_mo_notes rfl (by omega) (by decide) ?_
        refine Y_top (h.e (by decide) (by decide)) ?_
        refine Y_goto 25 rfl (pc2 := 59) (by decide) ?_
        refine Y_iret 34 rfl rfl rfl ⟨rfl, ?_⟩
        dsimp only
        first
          | (exfalso; omega)
          | exact pu_i (by unfold plM; rw [if_pos (by omega), if_pos (by omega)])
          | exact pu_i (by unfold plM; rw [if_pos (by omega), if_neg (by omega), if_pos (by omega)])
          | exact pu_i (by unfold plM; rw [if_pos (by omega), if_neg (by omega), if_neg (by omega)])
    · refine Y_iconst 13 rfl (pc2 := 25) rfl (v := -1) (by decide) ?_
      refine Y_goto 14 rfl (pc2 := 59) (by decide) ?_
      refine Y_iret 34 rfl rfl rfl ⟨rfl, ?_⟩
      dsimp only
      first
        | (exfalso; omega)
        | exact pu_i (by unfold plM; rw [if_pos (by omega), if_pos (by omega)])
        | exact pu_i (by unfold plM; rw [if_pos (by omega), if_neg (by omega), if_pos (by omega)])
        | exact pu_i (by unfold plM; rw [if_pos (by omega), if_neg (by omega), if_neg (by omega)])
  · refine Y_iload_n 8 rfl (pc2 := 16) rfl rfl ?_
    refine Y_iconst 9 rfl (pc2 := 17) rfl (v := nI 3) (by decide) ?_
    refine Y_icmp_nen 10 rfl (pc2 := 20) rfl (tgt := 60) (by decide) (by omega) (by omega) (fun h17 => ?_) (fun h17 => ?_)
    · refine Y_aload_n 35 rfl (pc2 := 61) rfl rfl ?_
      refine Y_iload 36 rfl (pc2 := 63) rfl rfl ?_
      refine Y_iload_n 37 rfl (pc2 := 64) rfl rfl ?_
      refine Y_aload_n 38 rfl (pc2 := 65) rfl rfl ?_
      refine Y_getI 39 rfl (pc2 := 68) rfl fl_mo_158 ly_mo (by decide) rfl ?_
      refine Y_top (hml) ?_
      refine Y_aload_n 40 rfl (pc2 := 69) rfl rfl ?_
      refine Y_getR 41 rfl (pc2 := 72) rfl fl_mo_26 ly_mo (by decide) rfl rfl (by omega) ?_
      refine Y_iconst 42 rfl (pc2 := 73) rfl (v := nI 3) (by decide) ?_
      refine Y_aload_n 43 rfl (pc2 := 74) rfl rfl ?_
      refine Y_getI 44 rfl (pc2 := 77) rfl fl_mo_158 ly_mo (by decide) rfl ?_
      refine Y_top (hml) ?_
      refine Y_imul 45 rfl (pc2 := 78) rfl ?_
      refine Y_top (nI_mul _ _) ?_
      refine Y_aload_n 46 rfl (pc2 := 79) rfl rfl ?_
      refine Y_iload 47 rfl (pc2 := 81) rfl rfl ?_
      refine Y_iload_n 48 rfl (pc2 := 82) rfl rfl ?_
      refine Y_cV 49 rfl (pc2 := 85) rfl ok_mo_turn lk_mo_173 vi_mo_turn ly_mo rfl (by decide) rfl (as := [.int _, .int _]) (rest := [.int _, .ref _, .int _, .int _, .int _, .ref _]) rfl rfl (T_mo_turn h w (by omega) (by omega)) ?_
      rintro _ _ ⟨rfl, rfl⟩
      change Y _ _ _ _ _ [.int _, .int _, .ref _, .int _, .int _, .int _, .ref _] _ _
      refine Y_iadd 50 rfl (pc2 := 86) rfl ?_
      refine Y_top (nI_add _ _) ?_
      refine Y_iald 51 rfl (pc2 := 87) rfl ly_mo_used rfl (by omega) (by decide) ?_
      refine Y_top ((h.e (by decide) (by decide)).trans hu.1) ?_
      refine Y_iload_n 52 rfl (pc2 := 88) rfl rfl ?_
      refine Y_iconst 53 rfl (pc2 := 89) rfl (v := nI 1) (by decide) ?_
      refine Y_isub 54 rfl (pc2 := 90) rfl ?_
      refine Y_top (nI_sub (by omega)) ?_
      refine Y_iload_n 55 rfl (pc2 := 91) rfl rfl ?_
      refine Y_cV 56 rfl (pc2 := 94) rfl ok_mo_struck lk_mo_176 vi_mo_struck ly_mo rfl (by decide) rfl (as := [.int _, .int _, .int _, .int _, .int _, .int _]) (rest := []) rfl rfl (T_mo_struck h w (by omega) (by omega) (by omega) (by omega) (by omega) (by omega)) ?_
      rintro _ _ ⟨rfl, rfl⟩
      change Y _ _ _ _ _ [.int _] _ _
      refine Y_iret 57 rfl rfl rfl ⟨rfl, ?_⟩
      dsimp only
      exact pu_i (by unfold plM; rw [if_neg (by omega)])
    · refine Y_iload_n 11 rfl (pc2 := 21) rfl rfl ?_
      refine Y_if_len 12 rfl (pc2 := 24) rfl (tgt := 28) (by decide) (by omega) (fun h21 => ?_) (fun h21 => ?_)
      · refine Y_iload_n 15 rfl (pc2 := 29) rfl rfl ?_
        refine Y_if_nen 16 rfl (pc2 := 32) rfl (tgt := 47) (by decide) (by omega) (fun h29 => ?_) (fun h29 => ?_)
        · refine Y_aload_n 26 rfl (pc2 := 48) rfl rfl ?_
          refine Y_getR 27 rfl (pc2 := 51) rfl fl_mo_16 ly_mo (by decide) rfl rfl (by omega) ?_
          refine Y_bipush 28 rfl (pc2 := 53) rfl (v := nI 32) (by decide) ?_
          refine Y_iload 29 rfl (pc2 := 55) rfl rfl ?_
          refine Y_imul 30 rfl (pc2 := 56) rfl ?_
          refine Y_top (nI_mul _ _) ?_
          refine Y_iload_n 31 rfl (pc2 := 57) rfl rfl ?_
          refine Y_iadd 32 rfl (pc2 := 58) rfl ?_
          refine Y_top (nI_add _ _) ?_
          refine Y_iald 33 rfl (pc2 := 59) rfl ly_mo_gongs rfl (by omega) (by decide) ?_
          refine Y_top (h.e (by decide) (by decide)) ?_
          refine Y_iret 34 rfl rfl rfl ⟨rfl, ?_⟩
          dsimp only
          first
            | (exfalso; omega)
            | exact pu_i (by unfold plM; rw [if_pos (by omega), if_pos (by omega)])
            | exact pu_i (by unfold plM; rw [if_pos (by omega), if_neg (by omega), if_pos (by omega)])
            | exact pu_i (by unfold plM; rw [if_pos (by omega), if_neg (by omega), if_neg (by omega)])
        · refine Y_aload_n 17 rfl (pc2 := 33) rfl rfl ?_
          refine Y_getR 18 rfl (pc2 := 36) rfl fl_mo_13 ly_mo (by decide) rfl rfl (by omega) ?_
          refine Y_bipush 19 rfl (pc2 := 38) rfl (v := nI 32) (by decide) ?_
          refine Y_iload 20 rfl (pc2 := 40) rfl rfl ?_
          refine Y_imul 21 rfl (pc2 := 41) rfl ?_
          refine Y_top (nI_mul _ _) ?_
          refine Y_iload_n 22 rfl (pc2 := 42) rfl rfl ?_
          refine Y_iadd 23 rfl (pc2 := 43) rfl ?_
          refine Y_top (nI_add _ _) ?_
          refine Y_iald 24 rfl (pc2 := 44) rfl ly_mo_notes rfl (by omega) (by decide) ?_
          refine Y_top (h.e (by decide) (by decide)) ?_
          refine Y_goto 25 rfl (pc2 := 59) (by decide) ?_
          refine Y_iret 34 rfl rfl rfl ⟨rfl, ?_⟩
          dsimp only
          first
            | (exfalso; omega)
            | exact pu_i (by unfold plM; rw [if_pos (by omega), if_pos (by omega)])
            | exact pu_i (by unfold plM; rw [if_pos (by omega), if_neg (by omega), if_pos (by omega)])
            | exact pu_i (by unfold plM; rw [if_pos (by omega), if_neg (by omega), if_neg (by omega)])
      · refine Y_iconst 13 rfl (pc2 := 25) rfl (v := -1) (by decide) ?_
        refine Y_goto 14 rfl (pc2 := 59) (by decide) ?_
        refine Y_iret 34 rfl rfl rfl ⟨rfl, ?_⟩
        dsimp only
        first
          | (exfalso; omega)
          | exact pu_i (by unfold plM; rw [if_pos (by omega), if_pos (by omega)])
          | exact pu_i (by unfold plM; rw [if_pos (by omega), if_neg (by omega), if_pos (by omega)])
          | exact pu_i (by unfold plM; rw [if_pos (by omega), if_neg (by omega), if_neg (by omega)])

def pS_ (m S : Mm) (x y z : Int32) : Option Value → Mm → Prop := fun v m' => (∃ r b s, r < tot S ∧ x = nI r ∧ b < bt S (cA_ S r) ∧ y = nI b ∧ s < 2 ^ (wl S r + 1) ∧ z = nI s ∧ v = some (.int (nI 1)) ∧ m' = gk m (nI (wp S r)) (nI (wl S r)) (nI (wt S r))) ∨ (¬ goo S x y z ∧ v = some (.int (nI 0)) ∧ ∃ p l t, m' = gk m p l t)

set_option maxHeartbeats 400000 in
theorem T_mo_isStep {G : Nat × (Nat → Int32)} {m : Mm} {S : Mm} (h : RM m S) (w : WF S) {x y z : Int32} : Y G M_mo_isStep (0, 0) 0 (en_ M_mo_isStep [.ref (153), .int (x), .int (y), .int (z)]) [] (LAY, m) (qm_ LAY (pS_ m S x y z)) := by
  change Y _ _ _ _ [some (.ref _), some (.int _), some (.int _), some (.int _)] _ _ _
  have h144 := tot_le w
  refine Y_aload_n 0 rfl (pc2 := 1) rfl rfl ?_
  refine Y_iload_n 1 rfl (pc2 := 2) rfl rfl ?_
  refine Y_cV 2 rfl (pc2 := 5) rfl ok_mo_isRound lk_mo_164 vi_mo_isRound ly_mo rfl (by decide) rfl (as := [.int _]) (rest := []) rfl rfl (T_mo_isRound h w) ?_
  rintro _ _ ⟨rfl, rfl⟩
  change Y _ _ _ _ _ [.int _] _ _
  refine Y_if_neb 3 rfl (pc2 := 8) rfl (tgt := 10) (by decide) (fun h5 => ?_) (fun h5 => ?_)
  · obtain ⟨r, hr, rfl⟩ := h5
    refine Y_aload_n 6 rfl (pc2 := 11) rfl rfl ?_
    refine Y_iload_n 7 rfl (pc2 := 12) rfl rfl ?_
    refine Y_cV 8 rfl (pc2 := 15) rfl ok_mo_goTo lk_mo_167 vi_mo_goTo ly_mo rfl (by decide) rfl (as := [.int _]) (rest := []) rfl rfl (T_mo_goTo h w hr) ?_
    rintro _ _ ⟨rfl, rfl⟩
    change Y _ _ _ _ _ [] _ _
    have hL := wl_lt w r hr
    have hp16 := w.p.2
    have hC : cA_ S r < 4 := (w.c (wp S r) (by omega)).2
    have hC2 : pC S (wp S r) < 4 := hC
    have hB := (w.b (cA_ S r) hC).2
    have hB2 : 2 ≤ bt S (pC S (wp S r)) ∧ bt S (pC S (wp S r)) ≤ 32 := hB
    have hZ := sz_16 hL.1
    refine Y_iload_n 9 rfl (pc2 := 16) rfl rfl ?_
    refine Y_iconst 10 rfl (pc2 := 17) rfl (v := nI 0) (by decide) ?_
    refine Y_aload_n 11 rfl (pc2 := 18) rfl rfl ?_
    refine Y_getR 12 rfl (pc2 := 21) rfl fl_mo_7 ly_mo (by decide) rfl rfl (by omega) ?_
    refine Y_aload_n 13 rfl (pc2 := 22) rfl rfl ?_
    refine Y_getR 14 rfl (pc2 := 25) rfl fl_mo_29 ly_mo (by decide) rfl rfl (by omega) ?_
    refine Y_aload_n 15 rfl (pc2 := 26) rfl rfl ?_
    refine Y_getI 16 rfl (pc2 := 29) rfl fl_mo_155 ly_mo (by decide) rfl ?_
    refine Y_top (gk_p) ?_
    refine Y_iald 17 rfl (pc2 := 30) rfl ly_mo_pCircle rfl (by omega) (by decide) ?_
    refine Y_top (((RM_gk h).e (by decide) (by decide)).trans (w.c _ (by omega)).1) ?_
    refine Y_iald 18 rfl (pc2 := 31) rfl ly_mo_beats rfl (by omega) (by decide) ?_
    refine Y_top (((RM_gk h).e (by decide) (by decide)).trans (w.b _ (by omega)).1) ?_
    refine Y_iconst 19 rfl (pc2 := 32) rfl (v := nI 1) (by decide) ?_
    refine Y_isub 20 rfl (pc2 := 33) rfl ?_
    refine Y_cS 21 rfl (pc2 := 36) rfl ok_mo_isIn lk_mo_62 vs_mo_isIn (as := [.int _, .int _, .int _]) (rest := []) rfl rfl (T_mo_isInm (by omega)) ?_
    rintro _ _ ⟨rfl, rfl⟩
    change Y _ _ _ _ _ [.int _] _ _
    refine Y_if_eqb 22 rfl (pc2 := 39) rfl (tgt := 60) (by decide) (fun h36 => ?_) (fun h36 => ?_)
    · refine Y_iconst 34 rfl (pc2 := 61) rfl (v := nI 0) (by decide) ?_
      refine Y_iret 35 rfl rfl rfl ⟨rfl, ?_⟩
      dsimp only
      first
        | exact Or.inl ⟨r, b, s, hr, rfl, hb, rfl, hs, rfl, rfl, rfl⟩
        | exact Or.inr ⟨fun e => h36 (by have z := e.2.1; rw [nv_nI (by omega)] at z; exact z), rfl, _, _, _, rfl⟩
        | exact Or.inr ⟨fun e => h53 (by have z := e.2.2; rw [nv_nI (by omega)] at z; exact z), rfl, _, _, _, rfl⟩
    · obtain ⟨b, hb, rfl⟩ := h36
      refine Y_iload_n 23 rfl (pc2 := 40) rfl rfl ?_
      refine Y_iconst 24 rfl (pc2 := 41) rfl (v := nI 0) (by decide) ?_
      refine Y_aload_n 25 rfl (pc2 := 42) rfl rfl ?_
      refine Y_getI 26 rfl (pc2 := 45) rfl fl_mo_158 ly_mo (by decide) rfl ?_
      refine Y_top (gk_l) ?_
      refine Y_cS 27 rfl (pc2 := 48) rfl ok_mo_stepsOf lk_mo_127 vs_mo_stepsOf (as := [.int _]) (rest := [.int _, .int _]) rfl rfl (T_mo_stepsOf (by omega)) ?_
      rintro _ _ ⟨rfl, rfl⟩
      change Y _ _ _ _ _ [.int _, .int _, .int _] _ _
      refine Y_iconst 28 rfl (pc2 := 49) rfl (v := nI 1) (by decide) ?_
      refine Y_isub 29 rfl (pc2 := 50) rfl ?_
      refine Y_cS 30 rfl (pc2 := 53) rfl ok_mo_isIn lk_mo_62 vs_mo_isIn (as := [.int _, .int _, .int _]) (rest := []) rfl rfl (T_mo_isInm (by omega)) ?_
      rintro _ _ ⟨rfl, rfl⟩
      change Y _ _ _ _ _ [.int _] _ _
      refine Y_if_eqb 31 rfl (pc2 := 56) rfl (tgt := 60) (by decide) (fun h53 => ?_) (fun h53 => ?_)
      · refine Y_iconst 34 rfl (pc2 := 61) rfl (v := nI 0) (by decide) ?_
        refine Y_iret 35 rfl rfl rfl ⟨rfl, ?_⟩
        dsimp only
        first
          | exact Or.inl ⟨r, b, s, hr, rfl, hb, rfl, hs, rfl, rfl, rfl⟩
          | exact Or.inr ⟨fun e => h36 (by have z := e.2.1; rw [nv_nI (by omega)] at z; exact z), rfl, _, _, _, rfl⟩
          | exact Or.inr ⟨fun e => h53 (by have z := e.2.2; rw [nv_nI (by omega)] at z; exact z), rfl, _, _, _, rfl⟩
      · obtain ⟨s, hs, rfl⟩ := h53
        refine Y_iconst 32 rfl (pc2 := 57) rfl (v := nI 1) (by decide) ?_
        refine Y_goto 33 rfl (pc2 := 61) (by decide) ?_
        refine Y_iret 35 rfl rfl rfl ⟨rfl, ?_⟩
        dsimp only
        first
          | exact Or.inl ⟨r, b, s, hr, rfl, hb, rfl, hs, rfl, rfl, rfl⟩
          | exact Or.inr ⟨fun e => h36 (by have z := e.2.1; rw [nv_nI (by omega)] at z; exact z), rfl, _, _, _, rfl⟩
          | exact Or.inr ⟨fun e => h53 (by have z := e.2.2; rw [nv_nI (by omega)] at z; exact z), rfl, _, _, _, rfl⟩
  · refine Y_iconst 4 rfl (pc2 := 9) rfl (v := nI 0) (by decide) ?_
    refine Y_iret 5 rfl rfl rfl ⟨rfl, ?_⟩
    dsimp only
    exact Or.inr ⟨fun e => h5 e.1, rfl, _, _, _, gk_id⟩

set_option maxHeartbeats 400000 in
theorem pl_val {S : Mm} (w : WF S) {c l q b s : Nat} (hc : c < 4) (hb : b < bt S c) (hl : l < 4) (hq : q < 4) (hs : s < 16) : (if plM S c l q b s < 0 then NONE_ else plM S c l q b s) = (if q = 1 ∨ q = 2 then kA S c l (q - 1) b s else if 0 < s then NONE_ else if q = 0 then oC (S 155 (32 * c + b)) else oC (S 156 (32 * c + b))) := by
  show oC (plM S c l q b s) = _
  unfold plM
  by_cases e : q = 1 ∨ q = 2
  · rw [if_pos e, if_neg (by omega), kA_M w hc hb hl (by omega) hs]
  · rw [if_neg e, if_pos (by omega)]
    by_cases e2 : 0 < s
    · rw [if_pos e2, if_pos e2]; rfl
    · rw [if_neg e2, if_neg e2]
      by_cases e3 : q = 0
      · rw [if_pos e3, if_pos e3]
      · rw [if_neg e3, if_neg e3]

set_option maxHeartbeats 400000 in
theorem T_mo_plays {G : Nat × (Nat → Int32)} {m : Mm} {S : Mm} (h : RM m S) (w : WF S) {p x y z : Int32} : Y G M_mo_plays (0, 0) 0 (en_ M_mo_plays [.ref (153), .int (p), .int (x), .int (y), .int (z)]) [] (LAY, m) (qm_ LAY (pm_ (sp_plays S p x y z) m S)) := by
  change Y _ _ _ _ [some (.ref _), some (.int _), some (.int _), some (.int _), some (.int _)] _ _ _
  refine Y_iload_n 0 rfl (pc2 := 1) rfl rfl ?_
  refine Y_iconst 1 rfl (pc2 := 2) rfl (v := nI 0) (by decide) ?_
  refine Y_iconst 2 rfl (pc2 := 3) rfl (v := nI 3) (by decide) ?_
  refine Y_cS 3 rfl (pc2 := 6) rfl ok_mo_isIn lk_mo_62 vs_mo_isIn (as := [.int _, .int _, .int _]) (rest := []) rfl rfl (T_mo_isIn0 (by omega)) ?_
  rintro _ _ ⟨rfl, rfl⟩
  change Y _ _ _ _ _ [.int _] _ _
  refine Y_if_eqb 4 rfl (pc2 := 9) rfl (tgt := 20) (by decide) (fun h6 => ?_) (fun h6 => ?_)
  · refine Y_ldc 11 rfl (pc2 := 22) rfl kc_mo_79 ?_
    refine Y_iret 12 rfl rfl rfl ⟨rfl, ?_⟩
    dsimp only
    first | exact pm_0 h (by unfold sp_plays; rw [cI_f (fun e => h6 e.1)]; rfl) | exact pm_g h (by unfold sp_plays; rw [cI_f (fun e => hn e.2)]; rfl)
  · obtain ⟨q, hq, rfl⟩ := h6
    refine Y_aload_n 5 rfl (pc2 := 10) rfl rfl ?_
    refine Y_iload_n 6 rfl (pc2 := 11) rfl rfl ?_
    refine Y_iload_n 7 rfl (pc2 := 12) rfl rfl ?_
    refine Y_iload 8 rfl (pc2 := 14) rfl rfl ?_
    refine Y_cV 9 rfl (pc2 := 17) rfl ok_mo_isStep lk_mo_180 vi_mo_isStep ly_mo rfl (by decide) rfl (as := [.int _, .int _, .int _]) (rest := []) rfl rfl (T_mo_isStep h w) ?_
    rintro _ _ (⟨r, b, s, hr, rfl, hb, rfl, hs, rfl, rfl, rfl⟩ | ⟨hn, rfl, p0, l0, t0, rfl⟩)
    · change Y _ _ _ _ _ [.int _] _ _
      have h144 := tot_le w
      have hL := wl_lt w r hr
      have hp16 := w.p.2
      have hC : cA_ S r < 4 := (w.c (wp S r) (by omega)).2
      have hC2 : pC S (wp S r) < 4 := hC
      have hB := (w.b (cA_ S r) hC).2
      have hB2 : 2 ≤ bt S (pC S (wp S r)) ∧ bt S (pC S (wp S r)) ≤ 32 := hB
      have hZ := sz_16 hL.1
      have hG : goo S (nI r) (nI b) (nI s) := ⟨⟨r, hr, rfl⟩, by rw [nv_nI (by omega)]; exact ⟨b, hb, rfl⟩, by rw [nv_nI (by omega)]; exact ⟨s, hs, rfl⟩⟩
      refine Y_if_nen 10 rfl (pc2 := 20) rfl (tgt := 23) (by decide) (by decide) (fun _ => ?_) (fun hd => absurd hd (by decide))
      refine Y_aload_n 13 rfl (pc2 := 24) rfl rfl ?_
      refine Y_iload_n 14 rfl (pc2 := 25) rfl rfl ?_
      refine Y_iload_n 15 rfl (pc2 := 26) rfl rfl ?_
      refine Y_iload 16 rfl (pc2 := 28) rfl rfl ?_
      refine Y_cV 17 rfl (pc2 := 31) rfl ok_mo_playedNow lk_mo_183 vi_mo_playedNow ly_mo rfl (by decide) rfl (as := [.int _, .int _, .int _]) (rest := []) rfl rfl (T_mo_playedNow (RM_gk h) w (by omega) hL.1 gk_p gk_l (by omega) hb (by omega)) ?_
      rintro _ _ ⟨rfl, rfl⟩
      change Y _ _ _ _ _ [.int _] _ _
      refine Y_cS 18 rfl (pc2 := 34) rfl ok_mo_orNone lk_mo_117 vs_mo_orNone (as := [.int _]) (rest := []) rfl rfl T_mo_orNone ?_
      rintro _ _ ⟨rfl, rfl⟩
      change Y _ _ _ _ _ [.int _] _ _
      refine Y_iret 19 rfl rfl rfl ⟨rfl, ?_⟩
      dsimp only
      exact pm_g h (by unfold sp_plays; rw [cI_t ⟨⟨q, hq, rfl⟩, hG⟩, nv_nI (k := q) (by omega)]; rw [nv_nI (k := r) (by omega), nv_nI (k := b) (by omega), nv_nI (k := s) (by omega)]; exact pl_val w hC hb hL.1 hq (by omega))
    · change Y _ _ _ _ _ [.int _] _ _
      refine Y_if_nen 10 rfl (pc2 := 20) rfl (tgt := 23) (by decide) (by decide) (fun hd => absurd hd (by decide)) (fun _ => ?_)
      refine Y_ldc 11 rfl (pc2 := 22) rfl kc_mo_79 ?_
      refine Y_iret 12 rfl rfl rfl ⟨rfl, ?_⟩
      dsimp only
      first | exact pm_0 h (by unfold sp_plays; rw [cI_f (fun e => h6 e.1)]; rfl) | exact pm_g h (by unfold sp_plays; rw [cI_f (fun e => hn e.2)]; rfl)

set_option maxHeartbeats 400000 in
theorem hP_in {x : Int32} : (nI 1 ≤ x ∧ x ≤ nI 2) ↔ hP x := by
  constructor
  · rintro ⟨h1, h2⟩
    have h3 : ¬ x < 0 := Int32.not_lt.mpr (Int32.le_trans (by decide) h1)
    obtain ⟨j, hj, rfl⟩ := nI_of h3
    have a := (nI_leI hj (by decide)).mp h2
    have b := (nI_leI (by decide) hj).mp h1
    exact ⟨j - 1, by omega, by congr 1; omega⟩
  · rintro ⟨g, hg, rfl⟩
    exact ⟨(nI_leI (by decide) (by omega)).mpr (by omega), (nI_leI (by omega) (by decide)).mpr (by omega)⟩
set_option maxHeartbeats 400000 in
theorem T_mo_isIn12 {G : Nat × (Nat → Int32)} {m : Mm} {x : Int32} : Y G M_mo_isIn (0, 0) 0 (en_ M_mo_isIn [.int x, .int (nI 1), .int (nI 2)]) [] (LAY, m) (qm_ LAY (pu_ (bI (hP x)) m)) := by
  rw [← bI_c hP_in]
  exact T_mo_isIn
set_option maxHeartbeats 400000 in
theorem dm_val {S : Mm} (w : WF S) {c l g b s : Nat} (hc : c < 4) (hb : b < bt S c) (hl : l < 4) (hg : g < 2) (hs : s < 16) : dmp (kA S c l g b s) (kH S c l g b s) = (if plM S c l (g + 1) b s < 0 ∨ hM S c l (g + 1) b s < 0 ∨ plM S c l (g + 1) b s = hM S c l (g + 1) b s then NONE_ else hM S c l (g + 1) b s) := by
  have hu := (w.u l (turn S c b) hl turn_lt).2
  have hn := kM_neg w hc hb hl hu hg hs
  have hk := kH_M w hc hb hl hg s (by omega)
  have hor : oR (kM S c b l (us S l (turn S c b)) g s) 10 := by
    by_cases e : S 157 (ix l (us S l (turn S c b)) g s) = -9
    · unfold kM; rw [if_pos e]; exact Or.inl rfl
    · exact Or.inr (hn.2 e)
  have z1 := oC_none (by decide) hor
  have z2 := oC_none (by decide) hk.2
  rw [kA_M w hc hb hl hg hs, hk.1, plM_h hg]
  unfold dmp
  by_cases e1 : kM S c b l (us S l (turn S c b)) g s < 0
  · rw [if_pos (Or.inl (z1.mpr e1)), if_pos (Or.inl e1)]
  · by_cases e2 : hM S c l (g + 1) b s < 0
    · rw [if_pos (Or.inr (Or.inl e2)), oC_no e2]
      split <;> rfl
    · rw [oC_id e1, oC_id e2] at *
      by_cases e3 : kM S c b l (us S l (turn S c b)) g s = hM S c l (g + 1) b s
      · rw [if_pos (Or.inr e3), if_pos (Or.inr (Or.inr e3))]
      · rw [if_neg (fun q => q.elim (fun q => e1 (z1.mp q)) e3), if_neg (fun q => q.elim e1 (fun q => q.elim e2 e3))]

set_option maxHeartbeats 400000 in
theorem L_damps {G : Nat × (Nat → Int32)} {m : Mm} {S : Mm} (h : RM m S) (w : WF S) {p l : Nat} (hp : p < 16) (hl : l < 4) (hmp : m 153 19 = nI p) (hml : m 153 20 = nI l) {g b s : Nat} (hg : g < 2) (hb : b < bt S (pC S p)) (hs : s < 16) {x : Int32} : ∀ i, i ≤ s → ∀ (u : Option Value), Y G M_mo_damps (0, 0) 39 [some (.ref 153), some (.int (nI (g + 1))), some (.int x), some (.int (nI b)), some (.int (nI s)), some (.int (plM S (pC S p) l (g + 1) b s)), some (.int (hM S (pC S p) l (g + 1) b i)), some (.int (nI i)), u] [] (LAY, m) (qm_ LAY (pu_ (dmp (kA S (pC S p) l g b s) (kH S (pC S p) l g b s)) m)) := by
  have hc := (w.c p hp).2
  refine ind_ (fun i hi ih u => ?_)
  refine Y_iload 23 rfl (pc2 := 41) rfl rfl ?_
  refine Y_iload 24 rfl (pc2 := 43) rfl rfl ?_
  refine Y_icmp_gen 25 rfl (pc2 := 46) rfl (tgt := 76) (by decide) (by omega) (by omega) (fun h43 => ?_) (fun h43 => ?_)
  · refine Y_iload 40 rfl (pc2 := 78) rfl rfl ?_
    refine Y_if_lt 41 rfl (pc2 := 81) rfl (tgt := 93) (by decide) (fun h78 => ?_) (fun h78 => ?_)
    · refine Y_ldc 47 rfl (pc2 := 95) rfl kc_mo_112 ?_
      refine Y_goto 48 rfl (pc2 := 100) (by decide) ?_
      refine Y_iret 50 rfl rfl rfl ⟨rfl, ?_⟩
      dsimp only
      refine pu_i ?_
      rw [dm_val w hc hb hl hg (by omega), ← show i = s by omega]
      first
        | (rw [if_pos (Or.inl (by rw [show s = i by omega] at h78; exact h78))]; rfl)
        | (rw [if_pos (Or.inr (Or.inl h83))]; rfl)
        | (rw [if_pos (Or.inr (Or.inr (by rw [show s = i by omega] at h90; first | exact h90 | exact Classical.byContradiction h90)))]; rfl)
        | rw [if_neg (by rw [show s = i by omega] at h78 h90; exact fun q => q.elim h78 (fun q => q.elim h83 h90))]
    · refine Y_iload 42 rfl (pc2 := 83) rfl rfl ?_
      refine Y_if_lt 43 rfl (pc2 := 86) rfl (tgt := 93) (by decide) (fun h83 => ?_) (fun h83 => ?_)
      · refine Y_ldc 47 rfl (pc2 := 95) rfl kc_mo_112 ?_
        refine Y_goto 48 rfl (pc2 := 100) (by decide) ?_
        refine Y_iret 50 rfl rfl rfl ⟨rfl, ?_⟩
        dsimp only
        refine pu_i ?_
        rw [dm_val w hc hb hl hg (by omega), ← show i = s by omega]
        first
          | (rw [if_pos (Or.inl (by rw [show s = i by omega] at h78; exact h78))]; rfl)
          | (rw [if_pos (Or.inr (Or.inl h83))]; rfl)
          | (rw [if_pos (Or.inr (Or.inr (by rw [show s = i by omega] at h90; first | exact h90 | exact Classical.byContradiction h90)))]; rfl)
          | rw [if_neg (by rw [show s = i by omega] at h78 h90; exact fun q => q.elim h78 (fun q => q.elim h83 h90))]
      · refine Y_iload 44 rfl (pc2 := 88) rfl rfl ?_
        refine Y_iload 45 rfl (pc2 := 90) rfl rfl ?_
        refine Y_icmp_ne 46 rfl (pc2 := 93) rfl (tgt := 98) (by decide) (fun h90 => ?_) (fun h90 => ?_)
        · refine Y_iload 49 rfl (pc2 := 100) rfl rfl ?_
          refine Y_iret 50 rfl rfl rfl ⟨rfl, ?_⟩
          dsimp only
          refine pu_i ?_
          rw [dm_val w hc hb hl hg (by omega), ← show i = s by omega]
          first
            | (rw [if_pos (Or.inl (by rw [show s = i by omega] at h78; exact h78))]; rfl)
            | (rw [if_pos (Or.inr (Or.inl h83))]; rfl)
            | (rw [if_pos (Or.inr (Or.inr (by rw [show s = i by omega] at h90; first | exact h90 | exact Classical.byContradiction h90)))]; rfl)
            | rw [if_neg (by rw [show s = i by omega] at h78 h90; exact fun q => q.elim h78 (fun q => q.elim h83 h90))]
        · refine Y_ldc 47 rfl (pc2 := 95) rfl kc_mo_112 ?_
          refine Y_goto 48 rfl (pc2 := 100) (by decide) ?_
          refine Y_iret 50 rfl rfl rfl ⟨rfl, ?_⟩
          dsimp only
          refine pu_i ?_
          rw [dm_val w hc hb hl hg (by omega), ← show i = s by omega]
          first
            | (rw [if_pos (Or.inl (by rw [show s = i by omega] at h78; exact h78))]; rfl)
            | (rw [if_pos (Or.inr (Or.inl h83))]; rfl)
            | (rw [if_pos (Or.inr (Or.inr (by rw [show s = i by omega] at h90; first | exact h90 | exact Classical.byContradiction h90)))]; rfl)
            | rw [if_neg (by rw [show s = i by omega] at h78 h90; exact fun q => q.elim h78 (fun q => q.elim h83 h90))]
  · refine Y_aload_n 26 rfl (pc2 := 47) rfl rfl ?_
    refine Y_iload_n 27 rfl (pc2 := 48) rfl rfl ?_
    refine Y_iload_n 28 rfl (pc2 := 49) rfl rfl ?_
    refine Y_iload 29 rfl (pc2 := 51) rfl rfl ?_
    refine Y_cV 30 rfl (pc2 := 54) rfl ok_mo_playedNow lk_mo_183 vi_mo_playedNow ly_mo rfl (by decide) rfl (as := [.int _, .int _, .int _]) (rest := []) rfl rfl (T_mo_playedNow h w hp hl hmp hml (by omega) hb (by omega)) ?_
    rintro _ _ ⟨rfl, rfl⟩
    change Y _ _ _ _ _ [.int _] _ _
    refine Y_istore 31 rfl (pc2 := 56) rfl (Nat.le_of_ble_eq_true rfl) (ls2 := [some (.ref _), some (.int _), some (.int _), some (.int _), some (.int _), some (.int _), some (.int _), some (.int _), some (.int _)]) rfl ?_
    refine Y_iload 32 rfl (pc2 := 58) rfl rfl ?_
    refine Y_if_ge 33 rfl (pc2 := 61) rfl (tgt := 66) (by decide) (fun h58 => ?_) (fun h58 => ?_)
    · refine Y_iload 36 rfl (pc2 := 68) rfl rfl ?_
      refine Y_istore 37 rfl (pc2 := 70) rfl (Nat.le_of_ble_eq_true rfl) (ls2 := [some (.ref _), some (.int _), some (.int _), some (.int _), some (.int _), some (.int _), some (.int _), some (.int _), some (.int _)]) rfl ?_
      refine Y_iinc 38 rfl (pc2 := 73) rfl rfl (nI_inc _ 1) (ls2 := [some (.ref _), some (.int _), some (.int _), some (.int _), some (.int _), some (.int _), some (.int _), some (.int _), some (.int _)]) rfl ?_
      refine Y_goto 39 rfl (pc2 := 39) (by decide) ?_
      first
        | exact Y_ls (by rw [show hM S (pC S p) l (g + 1) b (i + 1) = plM S (pC S p) l (g + 1) b i from if_neg (Int32.not_lt.mpr h58)]) (ih (i + 1) (by omega) (by omega) _)
        | exact Y_ls (by rw [show hM S (pC S p) l (g + 1) b (i + 1) = hM S (pC S p) l (g + 1) b i from if_pos (Int32.not_le.mp h58)]) (ih (i + 1) (by omega) (by omega) _)
    · refine Y_iload 34 rfl (pc2 := 63) rfl rfl ?_
      refine Y_goto 35 rfl (pc2 := 68) (by decide) ?_
      refine Y_istore 37 rfl (pc2 := 70) rfl (Nat.le_of_ble_eq_true rfl) (ls2 := [some (.ref _), some (.int _), some (.int _), some (.int _), some (.int _), some (.int _), some (.int _), some (.int _), some (.int _)]) rfl ?_
      refine Y_iinc 38 rfl (pc2 := 73) rfl rfl (nI_inc _ 1) (ls2 := [some (.ref _), some (.int _), some (.int _), some (.int _), some (.int _), some (.int _), some (.int _), some (.int _), some (.int _)]) rfl ?_
      refine Y_goto 39 rfl (pc2 := 39) (by decide) ?_
      first
        | exact Y_ls (by rw [show hM S (pC S p) l (g + 1) b (i + 1) = plM S (pC S p) l (g + 1) b i from if_neg (Int32.not_lt.mpr h58)]) (ih (i + 1) (by omega) (by omega) _)
        | exact Y_ls (by rw [show hM S (pC S p) l (g + 1) b (i + 1) = hM S (pC S p) l (g + 1) b i from if_pos (Int32.not_le.mp h58)]) (ih (i + 1) (by omega) (by omega) _)

set_option maxHeartbeats 400000 in
theorem T_mo_damps {G : Nat × (Nat → Int32)} {m : Mm} {S : Mm} (h : RM m S) (w : WF S) {p x y z : Int32} : Y G M_mo_damps (0, 0) 0 (en_ M_mo_damps [.ref (153), .int (p), .int (x), .int (y), .int (z)]) [] (LAY, m) (qm_ LAY (pm_ (sp_damps S p x y z) m S)) := by
  change Y _ _ _ _ [some (.ref _), some (.int _), some (.int _), some (.int _), some (.int _), none, none, none, none] _ _ _
  refine Y_iload_n 0 rfl (pc2 := 1) rfl rfl ?_
  refine Y_iconst 1 rfl (pc2 := 2) rfl (v := nI 1) (by decide) ?_
  refine Y_iconst 2 rfl (pc2 := 3) rfl (v := nI 2) (by decide) ?_
  refine Y_cS 3 rfl (pc2 := 6) rfl ok_mo_isIn lk_mo_62 vs_mo_isIn (as := [.int _, .int _, .int _]) (rest := []) rfl rfl T_mo_isIn12 ?_
  rintro _ _ ⟨rfl, rfl⟩
  change Y _ _ _ _ _ [.int _] _ _
  refine Y_if_eqb 4 rfl (pc2 := 9) rfl (tgt := 20) (by decide) (fun h6 => ?_) (fun h6 => ?_)
  · refine Y_ldc 11 rfl (pc2 := 22) rfl kc_mo_79 ?_
    refine Y_iret 12 rfl rfl rfl ⟨rfl, ?_⟩
    dsimp only
    first | exact pm_0 h (by unfold sp_damps; rw [cI_f (fun e => h6 e.1)]; rfl) | exact pm_g h (by unfold sp_damps; rw [cI_f (fun e => hn e.2)]; rfl)
  · obtain ⟨g, hg, rfl⟩ := h6
    refine Y_aload_n 5 rfl (pc2 := 10) rfl rfl ?_
    refine Y_iload_n 6 rfl (pc2 := 11) rfl rfl ?_
    refine Y_iload_n 7 rfl (pc2 := 12) rfl rfl ?_
    refine Y_iload 8 rfl (pc2 := 14) rfl rfl ?_
    refine Y_cV 9 rfl (pc2 := 17) rfl ok_mo_isStep lk_mo_180 vi_mo_isStep ly_mo rfl (by decide) rfl (as := [.int _, .int _, .int _]) (rest := []) rfl rfl (T_mo_isStep h w) ?_
    rintro _ _ (⟨r, b, s, hr, rfl, hb, rfl, hs, rfl, rfl, rfl⟩ | ⟨hn, rfl, p0, l0, t0, rfl⟩)
    · change Y _ _ _ _ _ [.int _] _ _
      have h144 := tot_le w
      have hL := wl_lt w r hr
      have hp16 := w.p.2
      have hC : cA_ S r < 4 := (w.c (wp S r) (by omega)).2
      have hC2 : pC S (wp S r) < 4 := hC
      have hB := (w.b (cA_ S r) hC).2
      have hB2 : 2 ≤ bt S (pC S (wp S r)) ∧ bt S (pC S (wp S r)) ≤ 32 := hB
      have hZ := sz_16 hL.1
      have hG : goo S (nI r) (nI b) (nI s) := ⟨⟨r, hr, rfl⟩, by rw [nv_nI (by omega)]; exact ⟨b, hb, rfl⟩, by rw [nv_nI (by omega)]; exact ⟨s, hs, rfl⟩⟩
      refine Y_if_nen 10 rfl (pc2 := 20) rfl (tgt := 23) (by decide) (by decide) (fun _ => ?_) (fun hd => absurd hd (by decide))
      refine Y_aload_n 13 rfl (pc2 := 24) rfl rfl ?_
      refine Y_iload_n 14 rfl (pc2 := 25) rfl rfl ?_
      refine Y_iload_n 15 rfl (pc2 := 26) rfl rfl ?_
      refine Y_iload 16 rfl (pc2 := 28) rfl rfl ?_
      refine Y_cV 17 rfl (pc2 := 31) rfl ok_mo_playedNow lk_mo_183 vi_mo_playedNow ly_mo rfl (by decide) rfl (as := [.int _, .int _, .int _]) (rest := []) rfl rfl (T_mo_playedNow (RM_gk h) w (by omega) hL.1 gk_p gk_l (by omega) hb (by omega)) ?_
      rintro _ _ ⟨rfl, rfl⟩
      change Y _ _ _ _ _ [.int _] _ _
      refine Y_istore 18 rfl (pc2 := 33) rfl (Nat.le_of_ble_eq_true rfl) (ls2 := [some (.ref _), some (.int _), some (.int _), some (.int _), some (.int _), some (.int _), none, none, none]) rfl ?_
      refine Y_iconst 19 rfl (pc2 := 34) rfl (v := -1) (by decide) ?_
      refine Y_istore 20 rfl (pc2 := 36) rfl (Nat.le_of_ble_eq_true rfl) (ls2 := [some (.ref _), some (.int _), some (.int _), some (.int _), some (.int _), some (.int _), some (.int _), none, none]) rfl ?_
      refine Y_iconst 21 rfl (pc2 := 37) rfl (v := nI 0) (by decide) ?_
      refine Y_istore 22 rfl (pc2 := 39) rfl (Nat.le_of_ble_eq_true rfl) (ls2 := [some (.ref _), some (.int _), some (.int _), some (.int _), some (.int _), some (.int _), some (.int _), some (.int _), none]) rfl ?_
      have e1 : sp_damps S (nI (g + 1)) (nI r) (nI b) (nI s) = dmp (kA S (cA_ S r) (wl S r) g b s) (kH S (cA_ S r) (wl S r) g b s) := by
        unfold sp_damps
        rw [cI_t ⟨⟨g, hg, rfl⟩, hG⟩, nv_nI (k := g + 1) (by omega)]; rw [nv_nI (k := r) (by omega), nv_nI (k := b) (by omega), nv_nI (k := s) (by omega)]; rw [Nat.add_sub_cancel]
      rw [e1]
      exact (L_damps (RM_gk h) w (by omega) hL.1 gk_p gk_l hg hb (by omega) 0 (Nat.zero_le _) _).mono (fun v σ hq => ⟨hq.1, hq.2.1, by rw [← hq.2.2]; exact RM_gk h, fun a ha => by rw [← hq.2.2]; exact gk_ne (by omega)⟩)
    · change Y _ _ _ _ _ [.int _] _ _
      refine Y_if_nen 10 rfl (pc2 := 20) rfl (tgt := 23) (by decide) (by decide) (fun hd => absurd hd (by decide)) (fun _ => ?_)
      refine Y_ldc 11 rfl (pc2 := 22) rfl kc_mo_79 ?_
      refine Y_iret 12 rfl rfl rfl ⟨rfl, ?_⟩
      dsimp only
      first | exact pm_0 h (by unfold sp_damps; rw [cI_f (fun e => h6 e.1)]; rfl) | exact pm_g h (by unfold sp_damps; rw [cI_f (fun e => hn e.2)]; rfl)
