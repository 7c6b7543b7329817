/-! the class: questions of figures and circles -/
set_option maxHeartbeats 400000 in
theorem L_countTold {G : Nat × (Nat → Int32)} {m : Mm} {a L n : Nat} (ha : LAY[a]? = some (12, L, [])) (hL : L < 2 ^ 31) (hn : n ≤ L) : ∀ i, i ≤ n → Y G M_gh_countTold (0, 0) 4 [some (.ref (a)), some (.int (nI n)), some (.int (nI (cnt (fun i => ¬ m a i = NONE_) i))), some (.int (nI i))] [] (LAY, m) (qm_ LAY (pu_ (nI (cnt (fun i => ¬ m a i = NONE_) n)) m)) := by
  refine ind_ (fun i hi ih => ?_)
  have hc := cnt_le (f := (fun i => ¬ m a i = NONE_)) i
  refine Y_iload_n 4 rfl (pc2 := 5) rfl rfl ?_
  refine Y_iload_n 5 rfl (pc2 := 6) rfl rfl ?_
  refine Y_icmp_gen 6 rfl (pc2 := 9) rfl (tgt := 32) (by decide) (by omega) (by omega) (fun h6 => ?_) (fun h6 => ?_)
  · refine Y_iload_n 19 rfl (pc2 := 33) rfl rfl ?_
    refine Y_iret 20 rfl rfl rfl ⟨rfl, ?_⟩
    first | exact pu_i (by rw [show i = n by omega]) | omega
  · refine Y_iload_n 7 rfl (pc2 := 10) rfl rfl ?_
    refine Y_aload_n 8 rfl (pc2 := 11) rfl rfl ?_
    refine Y_alen_i 9 rfl (pc2 := 12) rfl ha rfl ?_
    refine Y_icmp_gen 10 rfl (pc2 := 15) rfl (tgt := 32) (by decide) (by omega) (by omega) (fun h12 => ?_) (fun h12 => ?_)
    · refine Y_iload_n 19 rfl (pc2 := 33) rfl rfl ?_
      refine Y_iret 20 rfl rfl rfl ⟨rfl, ?_⟩
      first | exact pu_i (by rw [show i = n by omega]) | omega
    · refine Y_aload_n 11 rfl (pc2 := 16) rfl rfl ?_
      refine Y_iload_n 12 rfl (pc2 := 17) rfl rfl ?_
      refine Y_iald 13 rfl (pc2 := 18) rfl ha rfl (by omega) hL ?_
      refine Y_ldc 14 rfl (pc2 := 20) rfl kc_gh_84 ?_
      refine Y_icmp_eq 15 rfl (pc2 := 23) rfl (tgt := 26) (by decide) (fun h20 => ?_) (fun h20 => ?_)
      · refine Y_iinc 17 rfl (pc2 := 29) rfl rfl (nI_inc _ 1) (ls2 := [some (.ref _), some (.int _), some (.int _), some (.int _)]) rfl ?_
        refine Y_goto 18 rfl (pc2 := 4) (by decide) ?_
        first | exact Y_ls (by rw [cnt_t (f := (fun i => ¬ m a i = NONE_)) h20]) (ih (i + 1) (by omega) (by omega)) | exact Y_ls (by rw [cnt_f (f := (fun i => ¬ m a i = NONE_)) (not_not_intro h20)]) (ih (i + 1) (by omega) (by omega))
      · refine Y_iinc 16 rfl (pc2 := 26) rfl rfl (nI_inc _ 1) (ls2 := [some (.ref _), some (.int _), some (.int _), some (.int _)]) rfl ?_
        refine Y_iinc 17 rfl (pc2 := 29) rfl rfl (nI_inc _ 1) (ls2 := [some (.ref _), some (.int _), some (.int _), some (.int _)]) rfl ?_
        refine Y_goto 18 rfl (pc2 := 4) (by decide) ?_
        first | exact Y_ls (by rw [cnt_t (f := (fun i => ¬ m a i = NONE_)) h20]) (ih (i + 1) (by omega) (by omega)) | exact Y_ls (by rw [cnt_f (f := (fun i => ¬ m a i = NONE_)) (not_not_intro h20)]) (ih (i + 1) (by omega) (by omega))

set_option maxHeartbeats 400000 in
theorem T_gh_countTold {G : Nat × (Nat → Int32)} {m : Mm} {a L n : Nat} (ha : LAY[a]? = some (12, L, [])) (hL : L < 2 ^ 31) (hn : n ≤ L) : Y G M_gh_countTold (0, 0) 0 (en_ M_gh_countTold [.ref (a), .int (nI n)]) [] (LAY, m) (qm_ LAY (pu_ (nI (cnt (fun i => ¬ m a i = NONE_) n)) m)) := by
  change Y _ _ _ _ [some (.ref _), some (.int _), none, none] _ _ _
  refine Y_iconst 0 rfl (pc2 := 1) rfl (v := nI 0) (by decide) ?_
  refine Y_istore_n 1 rfl (pc2 := 2) rfl (Nat.le_of_ble_eq_true rfl) (ls2 := [some (.ref _), some (.int _), some (.int _), none]) rfl ?_
  refine Y_iconst 2 rfl (pc2 := 3) rfl (v := nI 0) (by decide) ?_
  refine Y_istore_n 3 rfl (pc2 := 4) rfl (Nat.le_of_ble_eq_true rfl) (ls2 := [some (.ref _), some (.int _), some (.int _), some (.int _)]) rfl ?_
  exact L_countTold ha hL hn 0 (by omega)

set_option maxHeartbeats 400000 in
theorem T_ci_beatBehind {G : Nat × (Nat → Int32)} {m : Mm} {S : Mm} (h : RC m S) (w : WF S) {c b : Nat} (hc : c < 4) (hb : b < 32) : Y G M_ci_beatBehind (0, 0) 0 (en_ M_ci_beatBehind [.ref (21 + 5 * c), .int (nI b)]) [] (LAY, m) (qm_ LAY (pu_ (nI (nxt (bt S c) b)) m)) := by
  change Y _ _ _ _ [some (.ref _), some (.int _)] _ _ _
  have hn := (w.b c hc).2
  refine Y_iload_n 0 rfl (pc2 := 1) rfl rfl ?_
  refine Y_iconst 1 rfl (pc2 := 2) rfl (v := nI 1) (by decide) ?_
  refine Y_iadd 2 rfl (pc2 := 3) rfl ?_
  refine Y_top (nI_add _ _) ?_
  refine Y_aload_n 3 rfl (pc2 := 4) rfl rfl ?_
  refine Y_getI 4 rfl (pc2 := 7) rfl fl_ci_24 (ly_ci (by omega)) (by decide) rfl ?_
  refine Y_top ((h.b _ (by omega)).trans (w.b _ (by omega)).1) ?_
  refine Y_icmp_gen 5 rfl (pc2 := 10) rfl (tgt := 16) (by decide) (by omega) (by omega) (fun h7 => ?_) (fun h7 => ?_)
  · refine Y_iconst 10 rfl (pc2 := 17) rfl (v := nI 0) (by decide) ?_
    refine Y_iret 11 rfl rfl rfl ⟨rfl, ?_⟩
    exact pu_i (by unfold nxt; first | rw [if_neg (by omega)] | rw [if_pos (by omega)])
  · refine Y_iload_n 6 rfl (pc2 := 11) rfl rfl ?_
    refine Y_iconst 7 rfl (pc2 := 12) rfl (v := nI 1) (by decide) ?_
    refine Y_iadd 8 rfl (pc2 := 13) rfl ?_
    refine Y_top (nI_add _ _) ?_
    refine Y_goto 9 rfl (pc2 := 17) (by decide) ?_
    refine Y_iret 11 rfl rfl rfl ⟨rfl, ?_⟩
    exact pu_i (by unfold nxt; first | rw [if_neg (by omega)] | rw [if_pos (by omega)])

set_option maxHeartbeats 400000 in
theorem T_ci_countNotes {G : Nat × (Nat → Int32)} {m : Mm} {S : Mm} (h : RC m S) (w : WF S) {c : Nat} (hc : c < 4) : Y G M_ci_countNotes (0, 0) 0 (en_ M_ci_countNotes [.ref (21 + 5 * c)]) [] (LAY, m) (qm_ LAY (pu_ (nI (cnt (fun b => ¬ S 155 (32 * c + b) < 0) (bt S c))) m)) := by
  change Y _ _ _ _ [some (.ref _)] _ _ _
  have hn := (w.b c hc).2
  refine Y_aload_n 0 rfl (pc2 := 1) rfl rfl ?_
  refine Y_getR 1 rfl (pc2 := 4) rfl fl_ci_9 (ly_ci (by omega)) (by decide) rfl rfl (by omega) ?_
  refine Y_aload_n 2 rfl (pc2 := 5) rfl rfl ?_
  refine Y_getI 3 rfl (pc2 := 8) rfl fl_ci_24 (ly_ci (by omega)) (by decide) rfl ?_
  refine Y_top ((h.b _ (by omega)).trans (w.b _ (by omega)).1) ?_
  refine Y_cS 4 rfl (pc2 := 11) rfl ok_gh_countTold lk_ci_66 vs_gh_countTold (as := [.ref _, .int _]) (rest := []) rfl rfl (T_gh_countTold (ly_ciN hc) (by decide) (by omega)) ?_
  rintro _ _ ⟨rfl, rfl⟩
  change Y _ _ _ _ _ [.int _] _ _
  refine Y_iret 5 rfl rfl rfl ⟨rfl, ?_⟩
  refine pu_i (congrArg nI (cnt_congr _ (fun i hi => ?_)))
  rw [h.n c i hc (by omega), oC_none (n := 9) (by decide) ?_]
  rcases w.n (32 * c + i) (by omega) with e | ⟨k, hk, e⟩
  · exact Or.inl e
  · exact Or.inr ⟨k, by omega, e⟩

set_option maxHeartbeats 400000 in
theorem T_ci_countGongs {G : Nat × (Nat → Int32)} {m : Mm} {S : Mm} (h : RC m S) (w : WF S) {c : Nat} (hc : c < 4) : Y G M_ci_countGongs (0, 0) 0 (en_ M_ci_countGongs [.ref (21 + 5 * c)]) [] (LAY, m) (qm_ LAY (pu_ (nI (cnt (fun b => ¬ S 156 (32 * c + b) < 0) (bt S c))) m)) := by
  change Y _ _ _ _ [some (.ref _)] _ _ _
  have hn := (w.b c hc).2
  refine Y_aload_n 0 rfl (pc2 := 1) rfl rfl ?_
  refine Y_getR 1 rfl (pc2 := 4) rfl fl_ci_15 (ly_ci (by omega)) (by decide) rfl rfl (by omega) ?_
  refine Y_aload_n 2 rfl (pc2 := 5) rfl rfl ?_
  refine Y_getI 3 rfl (pc2 := 8) rfl fl_ci_24 (ly_ci (by omega)) (by decide) rfl ?_
  refine Y_top ((h.b _ (by omega)).trans (w.b _ (by omega)).1) ?_
  refine Y_cS 4 rfl (pc2 := 11) rfl ok_gh_countTold lk_ci_66 vs_gh_countTold (as := [.ref _, .int _]) (rest := []) rfl rfl (T_gh_countTold (ly_ciG hc) (by decide) (by omega)) ?_
  rintro _ _ ⟨rfl, rfl⟩
  change Y _ _ _ _ _ [.int _] _ _
  refine Y_iret 5 rfl rfl rfl ⟨rfl, ?_⟩
  refine pu_i (congrArg nI (cnt_congr _ (fun i hi => ?_)))
  rw [h.g c i hc (by omega), oC_none (n := 9) (by decide) ?_]
  rcases w.g (32 * c + i) (by omega) with e | ⟨k, hk, e⟩
  · exact Or.inl e
  · exact Or.inr ⟨k, by omega, e⟩

set_option maxHeartbeats 400000 in
theorem T_fi_rowOf {G : Nat × (Nat → Int32)} {m : Mm} {l f h : Nat} (hl : l < 4) (hf : f < 6) (hh : h < 2) : Y G M_fi_rowOf (0, 0) 0 (en_ M_fi_rowOf [.ref (44 + 27 * l + 4 * f), .int (nI h)]) [] (LAY, m) (qm_ LAY (pa_ (45 + 27 * l + 4 * f + h) m)) := by
  change Y _ _ _ _ [some (.ref _), some (.int _)] _ _ _
  refine Y_iload_n 0 rfl (pc2 := 1) rfl rfl ?_
  refine Y_if_nen 1 rfl (pc2 := 4) rfl (tgt := 11) (by decide) (by omega) (fun h1 => ?_) (fun h1 => ?_)
  · refine Y_aload_n 5 rfl (pc2 := 12) rfl rfl ?_
    refine Y_getR 6 rfl (pc2 := 15) rfl fl_fi_15 (ly_fi (by omega) (by omega)) (by decide) rfl rfl (by omega) ?_
    refine Y_aret 7 rfl rfl (by first | exact Or.inr ⟨_, rfl⟩ | exact Or.inl ⟨_, rfl⟩) ⟨rfl, ?_⟩
    first | exact ⟨by rw [h1]; rfl, rfl⟩ | exact ⟨by rw [show h = 1 by omega, show 45 + 27 * l + 4 * f + 1 = 46 + 27 * l + 4 * f by omega], rfl⟩
  · refine Y_aload_n 2 rfl (pc2 := 5) rfl rfl ?_
    refine Y_getR 3 rfl (pc2 := 8) rfl fl_fi_9 (ly_fi (by omega) (by omega)) (by decide) rfl rfl (by omega) ?_
    refine Y_goto 4 rfl (pc2 := 15) (by decide) ?_
    refine Y_aret 7 rfl rfl (by first | exact Or.inr ⟨_, rfl⟩ | exact Or.inl ⟨_, rfl⟩) ⟨rfl, ?_⟩
    first | exact ⟨by rw [h1]; rfl, rfl⟩ | exact ⟨by rw [show h = 1 by omega, show 45 + 27 * l + 4 * f + 1 = 46 + 27 * l + 4 * f by omega], rfl⟩

set_option maxHeartbeats 400000 in
theorem T_fi_strikesOf {G : Nat × (Nat → Int32)} {m : Mm} {S : Mm} (h : RC m S) (w : WF S) {l f : Nat} (hl : l < 4) (hf : f < 6) {g : Nat} (hg : g < 2) : Y G M_fi_strikesOf (0, 0) 0 (en_ M_fi_strikesOf [.ref (44 + 27 * l + 4 * f), .int (nI g)]) [] (LAY, m) (qm_ LAY (pu_ (nI (cnt (fun s => ¬ S 157 (ix l f g s) = -9) (2 ^ (l + 1)))) m)) := by
  change Y _ _ _ _ [some (.ref _), some (.int _)] _ _ _
  refine Y_aload_n 0 rfl (pc2 := 1) rfl rfl ?_
  refine Y_iload_n 1 rfl (pc2 := 2) rfl rfl ?_
  refine Y_cV 2 rfl (pc2 := 5) rfl ok_fi_rowOf lk_fi_29 vi_fi_rowOf (ly_fi (by omega) (by omega)) rfl (by decide) rfl (as := [.int _]) (rest := []) rfl rfl (T_fi_rowOf (by omega) (by omega) (by omega)) ?_
  rintro _ _ ⟨rfl, rfl⟩
  change Y _ _ _ _ _ [.ref _] _ _
  refine Y_aload_n 3 rfl (pc2 := 6) rfl rfl ?_
  refine Y_iload_n 4 rfl (pc2 := 7) rfl rfl ?_
  refine Y_cV 5 rfl (pc2 := 10) rfl ok_fi_rowOf lk_fi_29 vi_fi_rowOf (ly_fi (by omega) (by omega)) rfl (by decide) rfl (as := [.int _]) (rest := [.ref _]) rfl rfl (T_fi_rowOf (by omega) (by omega) (by omega)) ?_
  rintro _ _ ⟨rfl, rfl⟩
  change Y _ _ _ _ _ [.ref _, .ref _] _ _
  refine Y_alen_i 6 rfl (pc2 := 11) rfl (ly_fiR (by omega) (by omega) (by omega)) rfl ?_
  refine Y_cS 7 rfl (pc2 := 14) rfl ok_gh_countTold lk_fi_47 vs_gh_countTold (as := [.ref _, .int _]) (rest := []) rfl rfl (T_gh_countTold (ly_fiR hl hf hg) (sz_lt hl) (Nat.le_refl _)) ?_
  rintro _ _ ⟨rfl, rfl⟩
  change Y _ _ _ _ _ [.int _] _ _
  refine Y_iret 8 rfl rfl rfl ⟨rfl, ?_⟩
  refine pu_i (congrArg nI (cnt_congr _ (fun i hi => ?_)))
  rw [h.r l f g i hl hf hg hi, oS_none (w.s _ (by have := sz_16 hl; unfold ix; omega))]

def wr (S : Mm) (l f s : Nat) : Prop := (S 157 (ix l f 0 s) = -9 ∧ S 157 (ix l f 1 s) = -9) ∨ (¬ S 157 (ix l f 0 s) = -9 ∧ ¬ S 157 (ix l f 1 s) = -9 ∧ S 158 (iy l f s) = 0)
noncomputable def wS (S : Mm) (l f : Nat) : Nat := fst_ (wr S l f) (2 ^ (l + 1))
noncomputable def wO (S : Mm) (l f : Nat) : Int32 := cI (wS S l f < 2 ^ (l + 1)) (nI (wS S l f)) NONE_
set_option maxHeartbeats 400000 in
theorem wO_is {S : Mm} {l f i : Nat} (h : ∀ j, j < i → ¬ wr S l f j) (hw : wr S l f i) (hi : i < 2 ^ (l + 1)) : wS S l f = i := fst_is h hw _ hi
set_option maxHeartbeats 400000 in
theorem wO_no {S : Mm} {l f : Nat} (h : ∀ j, j < 2 ^ (l + 1) → ¬ wr S l f j) : wS S l f = 2 ^ (l + 1) := fst_none _ h
set_option maxHeartbeats 400000 in
theorem sr_m {m S : Mm} (h : RC m S) (w : WF S) {l f s : Nat} (hl : l < 4) (hf : f < 6) (hs : s < 2 ^ (l + 1)) : m (45 + 27 * l + 4 * f) s = NONE_ ↔ S 157 (ix l f 0 s) = -9 := by
  have := h.r l f 0 s hl hf (by omega) hs
  rw [show m (45 + 27 * l + 4 * f) s = _ from this]
  exact oS_none (w.s _ (by have := sz_16 hl; unfold ix; omega))
set_option maxHeartbeats 400000 in
theorem sr_o {m S : Mm} (h : RC m S) (w : WF S) {l f s : Nat} (hl : l < 4) (hf : f < 6) (hs : s < 2 ^ (l + 1)) : m (46 + 27 * l + 4 * f) s = NONE_ ↔ S 157 (ix l f 1 s) = -9 := by
  have := h.r l f 1 s hl hf (by omega) hs
  rw [show 46 + 27 * l + 4 * f = 45 + 27 * l + 4 * f + 1 by omega, this]
  exact oS_none (w.s _ (by have := sz_16 hl; unfold ix; omega))
set_option maxHeartbeats 400000 in
theorem wr_t {m S : Mm} (h : RC m S) (w : WF S) {l f s : Nat} (hl : l < 4) (hf : f < 6) (hs : s < 2 ^ (l + 1)) (e : (m (45 + 27 * l + 4 * f) s = NONE_ ∧ m (46 + 27 * l + 4 * f) s = NONE_) ∨ (¬ m (45 + 27 * l + 4 * f) s = NONE_ ∧ ¬ m (46 + 27 * l + 4 * f) s = NONE_ ∧ m (47 + 27 * l + 4 * f) s = 0)) : wr S l f s := by
  rw [sr_m h w hl hf hs, sr_o h w hl hf hs, h.m l f s hl hf hs] at e
  exact e
set_option maxHeartbeats 400000 in
theorem wr_f {m S : Mm} (h : RC m S) (w : WF S) {l f s : Nat} (hl : l < 4) (hf : f < 6) (hs : s < 2 ^ (l + 1)) (e : ¬ ((m (45 + 27 * l + 4 * f) s = NONE_ ∧ m (46 + 27 * l + 4 * f) s = NONE_) ∨ (¬ m (45 + 27 * l + 4 * f) s = NONE_ ∧ ¬ m (46 + 27 * l + 4 * f) s = NONE_ ∧ m (47 + 27 * l + 4 * f) s = 0))) : ¬ wr S l f s := by
  rw [sr_m h w hl hf hs, sr_o h w hl hf hs, h.m l f s hl hf hs] at e
  exact e

set_option maxHeartbeats 400000 in
theorem L_firstWrong {G : Nat × (Nat → Int32)} {m : Mm} {S : Mm} (h : RC m S) (w : WF S) {l f : Nat} (hl : l < 4) (hf : f < 6) : ∀ i, i ≤ 2 ^ (l + 1) → (∀ j, j < i → ¬ wr S l f j) → ∀ (u v : Option Value), Y G M_fi_firstWrongStep (0, 0) 2 [some (.ref (44 + 27 * l + 4 * f)), some (.int (nI i)), u, v] [] (LAY, m) (qm_ LAY (pu_ (wO S l f) m)) := by
  have hz := sz_16 hl
  refine ind_ (fun i hi ih hw u v => ?_)
  refine Y_iload_n 2 rfl (pc2 := 3) rfl rfl ?_
  refine Y_aload_n 3 rfl (pc2 := 4) rfl rfl ?_
  refine Y_getR 4 rfl (pc2 := 7) rfl fl_fi_9 (ly_fi (by omega) (by omega)) (by decide) rfl rfl (by omega) ?_
  refine Y_alen_i 5 rfl (pc2 := 8) rfl (ly_fiM (by omega) (by omega)) rfl ?_
  refine Y_icmp_gen 6 rfl (pc2 := 11) rfl (tgt := 71) (by decide) (by omega) (by omega) (fun h8 => ?_) (fun h8 => ?_)
  · refine Y_ldc 41 rfl (pc2 := 73) rfl kc_fi_22 ?_
    refine Y_iret 42 rfl rfl rfl ⟨rfl, ?_⟩
    exact pu_i (by unfold wO; have e := wO_no (S := S) (l := l) (f := f) (fun j hj => hw j (by omega)); rw [e, cI_f (by omega)]; rfl)
  · refine Y_aload_n 7 rfl (pc2 := 12) rfl rfl ?_
    refine Y_getR 8 rfl (pc2 := 15) rfl fl_fi_9 (ly_fi (by omega) (by omega)) (by decide) rfl rfl (by omega) ?_
    refine Y_iload_n 9 rfl (pc2 := 16) rfl rfl ?_
    refine Y_iald 10 rfl (pc2 := 17) rfl (ly_fiM (by omega) (by omega)) rfl (by omega) (sz_lt (by omega)) ?_
    refine Y_ldc 11 rfl (pc2 := 19) rfl kc_fi_22 ?_
    refine Y_icmp_eq 12 rfl (pc2 := 22) rfl (tgt := 26) (by decide) (fun h19 => ?_) (fun h19 => ?_)
    · refine Y_iconst 15 rfl (pc2 := 27) rfl (v := nI 0) (by decide) ?_
      refine Y_istore_n 16 rfl (pc2 := 28) rfl (Nat.le_of_ble_eq_true rfl) (ls2 := [some (.ref _), some (.int _), some (.int _), _]) rfl ?_
      refine Y_aload_n 17 rfl (pc2 := 29) rfl rfl ?_
      refine Y_getR 18 rfl (pc2 := 32) rfl fl_fi_15 (ly_fi (by omega) (by omega)) (by decide) rfl rfl (by omega) ?_
      refine Y_iload_n 19 rfl (pc2 := 33) rfl rfl ?_
      refine Y_iald 20 rfl (pc2 := 34) rfl (ly_fiO (by omega) (by omega)) rfl (by omega) (sz_lt (by omega)) ?_
      refine Y_ldc 21 rfl (pc2 := 36) rfl kc_fi_22 ?_
      refine Y_icmp_eq 22 rfl (pc2 := 39) rfl (tgt := 43) (by decide) (fun h36 => ?_) (fun h36 => ?_)
      · refine Y_iconst 25 rfl (pc2 := 44) rfl (v := nI 0) (by decide) ?_
        refine Y_istore_n 26 rfl (pc2 := 45) rfl (Nat.le_of_ble_eq_true rfl) (ls2 := [some (.ref _), some (.int _), some (.int _), some (.int _)]) rfl ?_
        refine Y_iload_n 27 rfl (pc2 := 46) rfl rfl ?_
        refine Y_iload_n 28 rfl (pc2 := 47) rfl rfl ?_
        refine Y_icmp_nen 29 rfl (pc2 := 50) rfl (tgt := 65) (by decide) (by omega) (by omega) (fun h47 => ?_) (fun h47 => ?_)
        · refine Y_iinc 39 rfl (pc2 := 68) rfl rfl (nI_inc _ 1) (ls2 := [some (.ref _), some (.int _), some (.int _), some (.int _)]) rfl ?_
          refine Y_goto 40 rfl (pc2 := 2) (by decide) ?_
          exact ih (i + 1) (by omega) (by omega) (fun j hj => if e : j < i then hw j e else by rw [show j = i by omega]; exact wr_f h w hl hf (by omega) (by rintro (⟨e1, e2⟩ | ⟨e1, e2, e3⟩) <;> first | exact absurd e1 h19 | exact absurd e2 h36 | exact absurd h19 e1 | exact absurd h36 e2 | exact absurd e3 h60 | omega)) _ _
        · refine Y_iload_n 30 rfl (pc2 := 51) rfl rfl ?_
          refine Y_if_eqn 31 rfl (pc2 := 54) rfl (tgt := 63) (by decide) (by omega) (fun h51 => ?_) (fun h51 => ?_)
          · refine Y_iload_n 37 rfl (pc2 := 64) rfl rfl ?_
            refine Y_iret 38 rfl rfl rfl ⟨rfl, ?_⟩
            first | omega | exact pu_i (by unfold wO; have e := wO_is (l := l) (f := f) hw (wr_t h w hl hf (by omega) (by first | exact Or.inl ⟨h19, h36⟩ | exact Or.inr ⟨h19, h36, h60⟩)) (by omega); rw [e, cI_t (by omega)])
          · refine Y_aload_n 32 rfl (pc2 := 55) rfl rfl ?_
            refine Y_getR 33 rfl (pc2 := 58) rfl fl_fi_18 (ly_fi (by omega) (by omega)) (by decide) rfl rfl (by omega) ?_
            refine Y_iload_n 34 rfl (pc2 := 59) rfl rfl ?_
            refine Y_zald 35 rfl (pc2 := 60) rfl (ly_fiB (by omega) (by omega)) rfl (by omega) (sz_lt (by omega)) ?_
            refine Y_if_ne 36 rfl (pc2 := 63) rfl (tgt := 65) (by decide) (fun h60 => ?_) (fun h60 => ?_)
            · refine Y_iinc 39 rfl (pc2 := 68) rfl rfl (nI_inc _ 1) (ls2 := [some (.ref _), some (.int _), some (.int _), some (.int _)]) rfl ?_
              refine Y_goto 40 rfl (pc2 := 2) (by decide) ?_
              exact ih (i + 1) (by omega) (by omega) (fun j hj => if e : j < i then hw j e else by rw [show j = i by omega]; exact wr_f h w hl hf (by omega) (by rintro (⟨e1, e2⟩ | ⟨e1, e2, e3⟩) <;> first | exact absurd e1 h19 | exact absurd e2 h36 | exact absurd h19 e1 | exact absurd h36 e2 | exact absurd e3 h60 | omega)) _ _
            · refine Y_iload_n 37 rfl (pc2 := 64) rfl rfl ?_
              refine Y_iret 38 rfl rfl rfl ⟨rfl, ?_⟩
              first | omega | exact pu_i (by unfold wO; have e := wO_is (l := l) (f := f) hw (wr_t h w hl hf (by omega) (by first | exact Or.inl ⟨h19, h36⟩ | exact Or.inr ⟨h19, h36, h60⟩)) (by omega); rw [e, cI_t (by omega)])
      · refine Y_iconst 23 rfl (pc2 := 40) rfl (v := nI 1) (by decide) ?_
        refine Y_goto 24 rfl (pc2 := 44) (by decide) ?_
        refine Y_istore_n 26 rfl (pc2 := 45) rfl (Nat.le_of_ble_eq_true rfl) (ls2 := [some (.ref _), some (.int _), some (.int _), some (.int _)]) rfl ?_
        refine Y_iload_n 27 rfl (pc2 := 46) rfl rfl ?_
        refine Y_iload_n 28 rfl (pc2 := 47) rfl rfl ?_
        refine Y_icmp_nen 29 rfl (pc2 := 50) rfl (tgt := 65) (by decide) (by omega) (by omega) (fun h47 => ?_) (fun h47 => ?_)
        · refine Y_iinc 39 rfl (pc2 := 68) rfl rfl (nI_inc _ 1) (ls2 := [some (.ref _), some (.int _), some (.int _), some (.int _)]) rfl ?_
          refine Y_goto 40 rfl (pc2 := 2) (by decide) ?_
          exact ih (i + 1) (by omega) (by omega) (fun j hj => if e : j < i then hw j e else by rw [show j = i by omega]; exact wr_f h w hl hf (by omega) (by rintro (⟨e1, e2⟩ | ⟨e1, e2, e3⟩) <;> first | exact absurd e1 h19 | exact absurd e2 h36 | exact absurd h19 e1 | exact absurd h36 e2 | exact absurd e3 h60 | omega)) _ _
        · refine Y_iload_n 30 rfl (pc2 := 51) rfl rfl ?_
          refine Y_if_eqn 31 rfl (pc2 := 54) rfl (tgt := 63) (by decide) (by omega) (fun h51 => ?_) (fun h51 => ?_)
          · refine Y_iload_n 37 rfl (pc2 := 64) rfl rfl ?_
            refine Y_iret 38 rfl rfl rfl ⟨rfl, ?_⟩
            first | omega | exact pu_i (by unfold wO; have e := wO_is (l := l) (f := f) hw (wr_t h w hl hf (by omega) (by first | exact Or.inl ⟨h19, h36⟩ | exact Or.inr ⟨h19, h36, h60⟩)) (by omega); rw [e, cI_t (by omega)])
          · refine Y_aload_n 32 rfl (pc2 := 55) rfl rfl ?_
            refine Y_getR 33 rfl (pc2 := 58) rfl fl_fi_18 (ly_fi (by omega) (by omega)) (by decide) rfl rfl (by omega) ?_
            refine Y_iload_n 34 rfl (pc2 := 59) rfl rfl ?_
            refine Y_zald 35 rfl (pc2 := 60) rfl (ly_fiB (by omega) (by omega)) rfl (by omega) (sz_lt (by omega)) ?_
            refine Y_if_ne 36 rfl (pc2 := 63) rfl (tgt := 65) (by decide) (fun h60 => ?_) (fun h60 => ?_)
            · refine Y_iinc 39 rfl (pc2 := 68) rfl rfl (nI_inc _ 1) (ls2 := [some (.ref _), some (.int _), some (.int _), some (.int _)]) rfl ?_
              refine Y_goto 40 rfl (pc2 := 2) (by decide) ?_
              exact ih (i + 1) (by omega) (by omega) (fun j hj => if e : j < i then hw j e else by rw [show j = i by omega]; exact wr_f h w hl hf (by omega) (by rintro (⟨e1, e2⟩ | ⟨e1, e2, e3⟩) <;> first | exact absurd e1 h19 | exact absurd e2 h36 | exact absurd h19 e1 | exact absurd h36 e2 | exact absurd e3 h60 | omega)) _ _
            · refine Y_iload_n 37 rfl (pc2 := 64) rfl rfl ?_
              refine Y_iret 38 rfl rfl rfl ⟨rfl, ?_⟩
              first | omega | exact pu_i (by unfold wO; have e := wO_is (l := l) (f := f) hw (wr_t h w hl hf (by omega) (by first | exact Or.inl ⟨h19, h36⟩ | exact Or.inr ⟨h19, h36, h60⟩)) (by omega); rw [e, cI_t (by omega)])
    · refine Y_iconst 13 rfl (pc2 := 23) rfl (v := nI 1) (by decide) ?_
      refine Y_goto 14 rfl (pc2 := 27) (by decide) ?_
      refine Y_istore_n 16 rfl (pc2 := 28) rfl (Nat.le_of_ble_eq_true rfl) (ls2 := [some (.ref _), some (.int _), some (.int _), _]) rfl ?_
      refine Y_aload_n 17 rfl (pc2 := 29) rfl rfl ?_
      refine Y_getR 18 rfl (pc2 := 32) rfl fl_fi_15 (ly_fi (by omega) (by omega)) (by decide) rfl rfl (by omega) ?_
      refine Y_iload_n 19 rfl (pc2 := 33) rfl rfl ?_
      refine Y_iald 20 rfl (pc2 := 34) rfl (ly_fiO (by omega) (by omega)) rfl (by omega) (sz_lt (by omega)) ?_
      refine Y_ldc 21 rfl (pc2 := 36) rfl kc_fi_22 ?_
      refine Y_icmp_eq 22 rfl (pc2 := 39) rfl (tgt := 43) (by decide) (fun h36 => ?_) (fun h36 => ?_)
      · refine Y_iconst 25 rfl (pc2 := 44) rfl (v := nI 0) (by decide) ?_
        refine Y_istore_n 26 rfl (pc2 := 45) rfl (Nat.le_of_ble_eq_true rfl) (ls2 := [some (.ref _), some (.int _), some (.int _), some (.int _)]) rfl ?_
        refine Y_iload_n 27 rfl (pc2 := 46) rfl rfl ?_
        refine Y_iload_n 28 rfl (pc2 := 47) rfl rfl ?_
        refine Y_icmp_nen 29 rfl (pc2 := 50) rfl (tgt := 65) (by decide) (by omega) (by omega) (fun h47 => ?_) (fun h47 => ?_)
        · refine Y_iinc 39 rfl (pc2 := 68) rfl rfl (nI_inc _ 1) (ls2 := [some (.ref _), some (.int _), some (.int _), some (.int _)]) rfl ?_
          refine Y_goto 40 rfl (pc2 := 2) (by decide) ?_
          exact ih (i + 1) (by omega) (by omega) (fun j hj => if e : j < i then hw j e else by rw [show j = i by omega]; exact wr_f h w hl hf (by omega) (by rintro (⟨e1, e2⟩ | ⟨e1, e2, e3⟩) <;> first | exact absurd e1 h19 | exact absurd e2 h36 | exact absurd h19 e1 | exact absurd h36 e2 | exact absurd e3 h60 | omega)) _ _
        · refine Y_iload_n 30 rfl (pc2 := 51) rfl rfl ?_
          refine Y_if_eqn 31 rfl (pc2 := 54) rfl (tgt := 63) (by decide) (by omega) (fun h51 => ?_) (fun h51 => ?_)
          · refine Y_iload_n 37 rfl (pc2 := 64) rfl rfl ?_
            refine Y_iret 38 rfl rfl rfl ⟨rfl, ?_⟩
            first | omega | exact pu_i (by unfold wO; have e := wO_is (l := l) (f := f) hw (wr_t h w hl hf (by omega) (by first | exact Or.inl ⟨h19, h36⟩ | exact Or.inr ⟨h19, h36, h60⟩)) (by omega); rw [e, cI_t (by omega)])
          · refine Y_aload_n 32 rfl (pc2 := 55) rfl rfl ?_
            refine Y_getR 33 rfl (pc2 := 58) rfl fl_fi_18 (ly_fi (by omega) (by omega)) (by decide) rfl rfl (by omega) ?_
            refine Y_iload_n 34 rfl (pc2 := 59) rfl rfl ?_
            refine Y_zald 35 rfl (pc2 := 60) rfl (ly_fiB (by omega) (by omega)) rfl (by omega) (sz_lt (by omega)) ?_
            refine Y_if_ne 36 rfl (pc2 := 63) rfl (tgt := 65) (by decide) (fun h60 => ?_) (fun h60 => ?_)
            · refine Y_iinc 39 rfl (pc2 := 68) rfl rfl (nI_inc _ 1) (ls2 := [some (.ref _), some (.int _), some (.int _), some (.int _)]) rfl ?_
              refine Y_goto 40 rfl (pc2 := 2) (by decide) ?_
              exact ih (i + 1) (by omega) (by omega) (fun j hj => if e : j < i then hw j e else by rw [show j = i by omega]; exact wr_f h w hl hf (by omega) (by rintro (⟨e1, e2⟩ | ⟨e1, e2, e3⟩) <;> first | exact absurd e1 h19 | exact absurd e2 h36 | exact absurd h19 e1 | exact absurd h36 e2 | exact absurd e3 h60 | omega)) _ _
            · refine Y_iload_n 37 rfl (pc2 := 64) rfl rfl ?_
              refine Y_iret 38 rfl rfl rfl ⟨rfl, ?_⟩
              first | omega | exact pu_i (by unfold wO; have e := wO_is (l := l) (f := f) hw (wr_t h w hl hf (by omega) (by first | exact Or.inl ⟨h19, h36⟩ | exact Or.inr ⟨h19, h36, h60⟩)) (by omega); rw [e, cI_t (by omega)])
      · refine Y_iconst 23 rfl (pc2 := 40) rfl (v := nI 1) (by decide) ?_
        refine Y_goto 24 rfl (pc2 := 44) (by decide) ?_
        refine Y_istore_n 26 rfl (pc2 := 45) rfl (Nat.le_of_ble_eq_true rfl) (ls2 := [some (.ref _), some (.int _), some (.int _), some (.int _)]) rfl ?_
        refine Y_iload_n 27 rfl (pc2 := 46) rfl rfl ?_
        refine Y_iload_n 28 rfl (pc2 := 47) rfl rfl ?_
        refine Y_icmp_nen 29 rfl (pc2 := 50) rfl (tgt := 65) (by decide) (by omega) (by omega) (fun h47 => ?_) (fun h47 => ?_)
        · refine Y_iinc 39 rfl (pc2 := 68) rfl rfl (nI_inc _ 1) (ls2 := [some (.ref _), some (.int _), some (.int _), some (.int _)]) rfl ?_
          refine Y_goto 40 rfl (pc2 := 2) (by decide) ?_
          exact ih (i + 1) (by omega) (by omega) (fun j hj => if e : j < i then hw j e else by rw [show j = i by omega]; exact wr_f h w hl hf (by omega) (by rintro (⟨e1, e2⟩ | ⟨e1, e2, e3⟩) <;> first | exact absurd e1 h19 | exact absurd e2 h36 | exact absurd h19 e1 | exact absurd h36 e2 | exact absurd e3 h60 | omega)) _ _
        · refine Y_iload_n 30 rfl (pc2 := 51) rfl rfl ?_
          refine Y_if_eqn 31 rfl (pc2 := 54) rfl (tgt := 63) (by decide) (by omega) (fun h51 => ?_) (fun h51 => ?_)
          · refine Y_iload_n 37 rfl (pc2 := 64) rfl rfl ?_
            refine Y_iret 38 rfl rfl rfl ⟨rfl, ?_⟩
            first | omega | exact pu_i (by unfold wO; have e := wO_is (l := l) (f := f) hw (wr_t h w hl hf (by omega) (by first | exact Or.inl ⟨h19, h36⟩ | exact Or.inr ⟨h19, h36, h60⟩)) (by omega); rw [e, cI_t (by omega)])
          · refine Y_aload_n 32 rfl (pc2 := 55) rfl rfl ?_
            refine Y_getR 33 rfl (pc2 := 58) rfl fl_fi_18 (ly_fi (by omega) (by omega)) (by decide) rfl rfl (by omega) ?_
            refine Y_iload_n 34 rfl (pc2 := 59) rfl rfl ?_
            refine Y_zald 35 rfl (pc2 := 60) rfl (ly_fiB (by omega) (by omega)) rfl (by omega) (sz_lt (by omega)) ?_
            refine Y_if_ne 36 rfl (pc2 := 63) rfl (tgt := 65) (by decide) (fun h60 => ?_) (fun h60 => ?_)
            · refine Y_iinc 39 rfl (pc2 := 68) rfl rfl (nI_inc _ 1) (ls2 := [some (.ref _), some (.int _), some (.int _), some (.int _)]) rfl ?_
              refine Y_goto 40 rfl (pc2 := 2) (by decide) ?_
              exact ih (i + 1) (by omega) (by omega) (fun j hj => if e : j < i then hw j e else by rw [show j = i by omega]; exact wr_f h w hl hf (by omega) (by rintro (⟨e1, e2⟩ | ⟨e1, e2, e3⟩) <;> first | exact absurd e1 h19 | exact absurd e2 h36 | exact absurd h19 e1 | exact absurd h36 e2 | exact absurd e3 h60 | omega)) _ _
            · refine Y_iload_n 37 rfl (pc2 := 64) rfl rfl ?_
              refine Y_iret 38 rfl rfl rfl ⟨rfl, ?_⟩
              first | omega | exact pu_i (by unfold wO; have e := wO_is (l := l) (f := f) hw (wr_t h w hl hf (by omega) (by first | exact Or.inl ⟨h19, h36⟩ | exact Or.inr ⟨h19, h36, h60⟩)) (by omega); rw [e, cI_t (by omega)])

set_option maxHeartbeats 400000 in
theorem T_fi_firstWrongStep {G : Nat × (Nat → Int32)} {m : Mm} {S : Mm} (h : RC m S) (w : WF S) {l f : Nat} (hl : l < 4) (hf : f < 6) : Y G M_fi_firstWrongStep (0, 0) 0 (en_ M_fi_firstWrongStep [.ref (44 + 27 * l + 4 * f)]) [] (LAY, m) (qm_ LAY (pu_ (wO S l f) m)) := by
  change Y _ _ _ _ [some (.ref _), none, none, none] _ _ _
  refine Y_iconst 0 rfl (pc2 := 1) rfl (v := nI 0) (by decide) ?_
  refine Y_istore_n 1 rfl (pc2 := 2) rfl (Nat.le_of_ble_eq_true rfl) (ls2 := [some (.ref _), some (.int _), none, none]) rfl ?_
  exact L_firstWrong h w hl hf 0 (Nat.zero_le _) (fun j hj => by omega) _ _

set_option maxHeartbeats 400000 in
theorem wO_none {S : Mm} {l f : Nat} (hl : l < 4) : wO S l f = NONE_ ↔ wS S l f = 2 ^ (l + 1) := by
  have h1 := fst_le (f := wr S l f) (2 ^ (l + 1))
  have h2 := sz_16 hl
  have h3 : wS S l f ≤ 2 ^ (l + 1) := h1
  unfold wO
  by_cases e : wS S l f < 2 ^ (l + 1)
  · rw [cI_t e]
    exact ⟨fun q => absurd q (nI_none (by omega)), fun q => by omega⟩
  · rw [cI_f e]
    exact ⟨fun _ => by omega, fun _ => rfl⟩

set_option maxHeartbeats 400000 in
theorem T_fi_isRight {G : Nat × (Nat → Int32)} {m : Mm} {S : Mm} (h : RC m S) (w : WF S) {l f : Nat} (hl : l < 4) (hf : f < 6) : Y G M_fi_isRight (0, 0) 0 (en_ M_fi_isRight [.ref (44 + 27 * l + 4 * f)]) [] (LAY, m) (qm_ LAY (pu_ (bI (wS S l f = 2 ^ (l + 1))) m)) := by
  change Y _ _ _ _ [some (.ref _)] _ _ _
  refine Y_aload_n 0 rfl (pc2 := 1) rfl rfl ?_
  refine Y_cV 1 rfl (pc2 := 4) rfl ok_fi_firstWrongStep lk_fi_51 vi_fi_firstWrongStep (ly_fi (by omega) (by omega)) rfl (by decide) rfl (as := []) (rest := []) rfl rfl (T_fi_firstWrongStep h w (by omega) (by omega)) ?_
  rintro _ _ ⟨rfl, rfl⟩
  change Y _ _ _ _ _ [.int _] _ _
  refine Y_ldc 2 rfl (pc2 := 6) rfl kc_fi_22 ?_
  refine Y_icmp_ne 3 rfl (pc2 := 9) rfl (tgt := 13) (by decide) (fun h6 => ?_) (fun h6 => ?_)
  · refine Y_iconst 6 rfl (pc2 := 14) rfl (v := nI 0) (by decide) ?_
    refine Y_iret 7 rfl rfl rfl ⟨rfl, ?_⟩
    first | exact pu_t ((wO_none hl).mp h6) | exact pu_f (fun e => h6 ((wO_none hl).mpr e))
  · refine Y_iconst 4 rfl (pc2 := 10) rfl (v := nI 1) (by decide) ?_
    refine Y_goto 5 rfl (pc2 := 14) (by decide) ?_
    refine Y_iret 7 rfl rfl rfl ⟨rfl, ?_⟩
    first | exact pu_t ((wO_none hl).mp h6) | exact pu_f (fun e => h6 ((wO_none hl).mpr e))

def lsh (S : Mm) (l f s : Nat) : Int32 := if S 157 (ix l f 0 s) = -9 then oS (S 157 (ix l f 1 s)) else S 157 (ix l f 0 s)

set_option maxHeartbeats 400000 in
theorem T_fi_lineShift {G : Nat × (Nat → Int32)} {m : Mm} {S : Mm} (h : RC m S) (w : WF S) {l f : Nat} (hl : l < 4) (hf : f < 6) {s : Nat} (hs : s < 2 ^ (l + 1)) : Y G M_fi_lineShift (0, 0) 0 (en_ M_fi_lineShift [.ref (44 + 27 * l + 4 * f), .int (nI s)]) [] (LAY, m) (qm_ LAY (pu_ (lsh S l f s) m)) := by
  change Y _ _ _ _ [some (.ref _), some (.int _)] _ _ _
  refine Y_aload_n 0 rfl (pc2 := 1) rfl rfl ?_
  refine Y_getR 1 rfl (pc2 := 4) rfl fl_fi_9 (ly_fi (by omega) (by omega)) (by decide) rfl rfl (by omega) ?_
  refine Y_iload_n 2 rfl (pc2 := 5) rfl rfl ?_
  refine Y_iald 3 rfl (pc2 := 6) rfl (ly_fiM (by omega) (by omega)) rfl (by omega) (sz_lt (by omega)) ?_
  refine Y_ldc 4 rfl (pc2 := 8) rfl kc_fi_22 ?_
  refine Y_icmp_eq 5 rfl (pc2 := 11) rfl (tgt := 20) (by decide) (fun h8 => ?_) (fun h8 => ?_)
  · refine Y_aload_n 11 rfl (pc2 := 21) rfl rfl ?_
    refine Y_getR 12 rfl (pc2 := 24) rfl fl_fi_15 (ly_fi (by omega) (by omega)) (by decide) rfl rfl (by omega) ?_
    refine Y_iload_n 13 rfl (pc2 := 25) rfl rfl ?_
    refine Y_iald 14 rfl (pc2 := 26) rfl (ly_fiO (by omega) (by omega)) rfl (by omega) (sz_lt (by omega)) ?_
    refine Y_iret 15 rfl rfl rfl ⟨rfl, ?_⟩
    first
      | exact pu_i (by have e := h.r l f 1 s hl hf (by omega) hs; unfold lsh; rw [if_pos ((sr_m h w hl hf hs).mp h8), ← e]; exact congrFun (congrArg m (by omega)) s)
      | exact pu_i (by have e := h.r l f 0 s hl hf (by omega) hs; have e2 := mt (sr_m h w hl hf hs).mpr h8; unfold lsh; rw [if_neg e2]; refine Eq.trans e ?_; unfold oS; rw [if_neg e2])
  · refine Y_aload_n 6 rfl (pc2 := 12) rfl rfl ?_
    refine Y_getR 7 rfl (pc2 := 15) rfl fl_fi_9 (ly_fi (by omega) (by omega)) (by decide) rfl rfl (by omega) ?_
    refine Y_iload_n 8 rfl (pc2 := 16) rfl rfl ?_
    refine Y_iald 9 rfl (pc2 := 17) rfl (ly_fiM (by omega) (by omega)) rfl (by omega) (sz_lt (by omega)) ?_
    refine Y_goto 10 rfl (pc2 := 26) (by decide) ?_
    refine Y_iret 15 rfl rfl rfl ⟨rfl, ?_⟩
    first
      | exact pu_i (by have e := h.r l f 1 s hl hf (by omega) hs; unfold lsh; rw [if_pos ((sr_m h w hl hf hs).mp h8), ← e]; exact congrFun (congrArg m (by omega)) s)
      | exact pu_i (by have e := h.r l f 0 s hl hf (by omega) hs; have e2 := mt (sr_m h w hl hf hs).mpr h8; unfold lsh; rw [if_neg e2]; refine Eq.trans e ?_; unfold oS; rw [if_neg e2])

set_option maxHeartbeats 400000 in
theorem T_le_figureFor {G : Nat × (Nat → Int32)} {m : Mm} {S : Mm} (h : RC m S) (w : WF S) {l c b : Nat} (hl : l < 4) (hc : c < 4) (hb : b < bt S c) : Y G M_le_figureFor (0, 0) 0 (en_ M_le_figureFor [.ref (41 + 27 * l), .ref (21 + 5 * c), .int (nI b)]) [] (LAY, m) (qm_ LAY (pa_ (44 + 27 * l + 4 * us S l (turn S c b)) m)) := by
  change Y _ _ _ _ [some (.ref _), some (.ref _), some (.int _)] _ _ _
  have hn := (w.b c hc).2
  have hu := w.u l (turn S c b) hl turn_lt
  have ht : turn S c b < 3 := turn_lt
  refine Y_aload_n 0 rfl (pc2 := 1) rfl rfl ?_
  refine Y_getR 1 rfl (pc2 := 4) rfl fl_le_11 (ly_le (by omega)) (by decide) rfl rfl (by omega) ?_
  refine Y_aload_n 2 rfl (pc2 := 5) rfl rfl ?_
  refine Y_getR 3 rfl (pc2 := 8) rfl fl_le_17 (ly_le (by omega)) (by decide) rfl rfl (by omega) ?_
  refine Y_aload_n 4 rfl (pc2 := 9) rfl rfl ?_
  refine Y_getR 5 rfl (pc2 := 12) rfl fl_le_28 (ly_ci (by omega)) (by decide) rfl rfl (by omega) ?_
  refine Y_iload_n 6 rfl (pc2 := 13) rfl rfl ?_
  refine Y_iald 7 rfl (pc2 := 14) rfl (ly_ciU (by omega)) rfl (by omega) (by decide) ?_
  refine Y_top (h.u c b hc hb) ?_
  refine Y_iald 8 rfl (pc2 := 15) rfl (ly_leU (by omega)) rfl (by omega) (by decide) ?_
  refine Y_top ((h.us l (turn S c b) hl turn_lt).trans hu.1) ?_
  refine Y_aald 9 rfl (pc2 := 16) rfl (ly_leF (by omega)) (by decide) (fun _ => rfl) rfl (by omega) (by decide) (ly_leF_at (by omega)) (by omega) ?_
  refine Y_aret 10 rfl rfl (by first | exact Or.inr ⟨_, rfl⟩ | exact Or.inl ⟨_, rfl⟩) ⟨rfl, ?_⟩
  exact ⟨rfl, rfl⟩

set_option maxHeartbeats 400000 in
theorem L_countRight {G : Nat × (Nat → Int32)} {m : Mm} {S : Mm} (h : RC m S) (w : WF S) {l : Nat} (hl : l < 4) : ∀ i, i ≤ 6 → Y G M_le_countRight (0, 0) 4 [some (.ref (41 + 27 * l)), some (.int (nI (cnt (fun f => wS S l f = 2 ^ (l + 1)) i))), some (.int (nI i))] [] (LAY, m) (qm_ LAY (pu_ (nI (cnt (fun f => wS S l f = 2 ^ (l + 1)) 6)) m)) := by
  refine ind_ (fun i hi ih => ?_)
  have hc := cnt_le (f := (fun f => wS S l f = 2 ^ (l + 1))) i
  refine Y_iload_n 4 rfl (pc2 := 5) rfl rfl ?_
  refine Y_bipush 5 rfl (pc2 := 7) rfl (v := nI 6) (by decide) ?_
  refine Y_icmp_gen 6 rfl (pc2 := 10) rfl (tgt := 31) (by decide) (by omega) (by omega) (fun h7 => ?_) (fun h7 => ?_)
  · refine Y_iload_n 16 rfl (pc2 := 32) rfl rfl ?_
    refine Y_iret 17 rfl rfl rfl ⟨rfl, ?_⟩
    exact pu_i (by rw [show i = 6 by omega])
  · refine Y_aload_n 7 rfl (pc2 := 11) rfl rfl ?_
    refine Y_getR 8 rfl (pc2 := 14) rfl fl_le_11 (ly_le (by omega)) (by decide) rfl rfl (by omega) ?_
    refine Y_iload_n 9 rfl (pc2 := 15) rfl rfl ?_
    refine Y_aald 10 rfl (pc2 := 16) rfl (ly_leF (by omega)) (by decide) (fun _ => rfl) rfl (by omega) (by decide) (ly_leF_at (by omega)) (by omega) ?_
    refine Y_cV 11 rfl (pc2 := 19) rfl ok_fi_isRight lk_le_33 vi_fi_isRight (ly_fi (by omega) (by omega)) rfl (by decide) rfl (as := []) (rest := []) rfl rfl (T_fi_isRight h w (by omega) (by omega)) ?_
    rintro _ _ ⟨rfl, rfl⟩
    change Y _ _ _ _ _ [.int _] _ _
    refine Y_if_eqb 12 rfl (pc2 := 22) rfl (tgt := 25) (by decide) (fun h19 => ?_) (fun h19 => ?_)
    · refine Y_iinc 14 rfl (pc2 := 28) rfl rfl (nI_inc _ 1) (ls2 := [some (.ref _), some (.int _), some (.int _)]) rfl ?_
      refine Y_goto 15 rfl (pc2 := 4) (by decide) ?_
      first | exact Y_ls (by rw [cnt_t (f := (fun f => wS S l f = 2 ^ (l + 1))) h19]) (ih (i + 1) (by omega) (by omega)) | exact Y_ls (by rw [cnt_f (f := (fun f => wS S l f = 2 ^ (l + 1))) h19]) (ih (i + 1) (by omega) (by omega))
    · refine Y_iinc 13 rfl (pc2 := 25) rfl rfl (nI_inc _ 1) (ls2 := [some (.ref _), some (.int _), some (.int _)]) rfl ?_
      refine Y_iinc 14 rfl (pc2 := 28) rfl rfl (nI_inc _ 1) (ls2 := [some (.ref _), some (.int _), some (.int _)]) rfl ?_
      refine Y_goto 15 rfl (pc2 := 4) (by decide) ?_
      first | exact Y_ls (by rw [cnt_t (f := (fun f => wS S l f = 2 ^ (l + 1))) h19]) (ih (i + 1) (by omega) (by omega)) | exact Y_ls (by rw [cnt_f (f := (fun f => wS S l f = 2 ^ (l + 1))) h19]) (ih (i + 1) (by omega) (by omega))

set_option maxHeartbeats 400000 in
theorem T_le_countRight {G : Nat × (Nat → Int32)} {m : Mm} {S : Mm} (h : RC m S) (w : WF S) {l : Nat} (hl : l < 4) : Y G M_le_countRight (0, 0) 0 (en_ M_le_countRight [.ref (41 + 27 * l)]) [] (LAY, m) (qm_ LAY (pu_ (nI (cnt (fun f => wS S l f = 2 ^ (l + 1)) 6)) m)) := by
  change Y _ _ _ _ [some (.ref _), none, none] _ _ _
  refine Y_iconst 0 rfl (pc2 := 1) rfl (v := nI 0) (by decide) ?_
  refine Y_istore_n 1 rfl (pc2 := 2) rfl (Nat.le_of_ble_eq_true rfl) (ls2 := [some (.ref _), some (.int _), none]) rfl ?_
  refine Y_iconst 2 rfl (pc2 := 3) rfl (v := nI 0) (by decide) ?_
  refine Y_istore_n 3 rfl (pc2 := 4) rfl (Nat.le_of_ble_eq_true rfl) (ls2 := [some (.ref _), some (.int _), some (.int _)]) rfl ?_
  exact L_countRight h w hl 0 (by omega)

set_option maxHeartbeats 400000 in
theorem T_sh_isMissing {G : Nat × (Nat → Int32)} {m : Mm} {S : Mm} (h : RC m S) (w : WF S) {s : Nat} (hs : s < 2) : Y G M_sh_isMissing (0, 0) 0 (en_ M_sh_isMissing [.ref (149 + 2 * s)]) [] (LAY, m) (qm_ LAY (pu_ (bI (S 165 s = -1)) m)) := by
  change Y _ _ _ _ [some (.ref _)] _ _ _
  refine Y_aload_n 0 rfl (pc2 := 1) rfl rfl ?_
  refine Y_getI 1 rfl (pc2 := 4) rfl fl_sh_15 (ly_sh (by omega)) (by decide) rfl ?_
  refine Y_top (h.sp s hs) ?_
  refine Y_iconst 2 rfl (pc2 := 5) rfl (v := -1) (by decide) ?_
  refine Y_icmp_ne 3 rfl (pc2 := 8) rfl (tgt := 12) (by decide) (fun h5 => ?_) (fun h5 => ?_)
  · refine Y_iconst 6 rfl (pc2 := 13) rfl (v := nI 0) (by decide) ?_
    refine Y_iret 7 rfl rfl rfl ⟨rfl, ?_⟩
    first | exact pu_t h5 | exact pu_f h5
  · refine Y_iconst 4 rfl (pc2 := 9) rfl (v := nI 1) (by decide) ?_
    refine Y_goto 5 rfl (pc2 := 13) (by decide) ?_
    refine Y_iret 7 rfl rfl rfl ⟨rfl, ?_⟩
    first | exact pu_t h5 | exact pu_f h5

set_option maxHeartbeats 400000 in
theorem T_gh_hasBeat {G : Nat × (Nat → Int32)} {m : Mm} {S : Mm} (h : RC m S) (w : WF S) {x y : Int32} : Y G M_gh_hasBeat (0, 0) 0 (en_ M_gh_hasBeat [.ref (0), .int (x), .int (y)]) [] (LAY, m) (qm_ LAY (pu_ (bI (iR x 4 ∧ iR y (bt S (nv x)))) m)) := by
  change Y _ _ _ _ [some (.ref _), some (.int _), some (.int _)] _ _ _
  refine Y_iload_n 0 rfl (pc2 := 1) rfl rfl ?_
  refine Y_iconst 1 rfl (pc2 := 2) rfl (v := nI 4) (by decide) ?_
  refine Y_cS 2 rfl (pc2 := 5) rfl ok_gh_isBelow lk_gh_80 vs_gh_isBelow (as := [.int _, .int _]) (rest := []) rfl rfl (T_gh_isBelow (by omega)) ?_
  rintro _ _ ⟨rfl, rfl⟩
  change Y _ _ _ _ _ [.int _] _ _
  refine Y_if_eqb 3 rfl (pc2 := 8) rfl (tgt := 28) (by decide) (fun h5 => ?_) (fun h5 => ?_)
  · refine Y_iconst 14 rfl (pc2 := 29) rfl (v := nI 0) (by decide) ?_
    refine Y_iret 15 rfl rfl rfl ⟨rfl, ?_⟩
    first
      | exact pu_f (fun e => h5 e.1)
      | exact pu_t ⟨⟨c, hc, rfl⟩, by rw [nv_nI (by omega)]; exact h21⟩
      | exact pu_f (fun e => h21 (by have := e.2; rw [nv_nI (by omega)] at this; exact this))
  · obtain ⟨c, hc, rfl⟩ := h5
    have hn := (w.b c hc).2
    refine Y_iload_n 4 rfl (pc2 := 9) rfl rfl ?_
    refine Y_aload_n 5 rfl (pc2 := 10) rfl rfl ?_
    refine Y_getR 6 rfl (pc2 := 13) rfl fl_gh_25 ly_gh (by decide) rfl rfl (by omega) ?_
    refine Y_iload_n 7 rfl (pc2 := 14) rfl rfl ?_
    refine Y_aald 8 rfl (pc2 := 15) rfl ly_ghC (by decide) (fun _ => rfl) rfl (by omega) (by decide) (ly_ghC_at (by omega)) (by omega) ?_
    refine Y_getI 9 rfl (pc2 := 18) rfl fl_gh_270 (ly_ci (by omega)) (by decide) rfl ?_
    refine Y_top ((h.b _ (by omega)).trans (w.b _ (by omega)).1) ?_
    refine Y_cS 10 rfl (pc2 := 21) rfl ok_gh_isBelow lk_gh_80 vs_gh_isBelow (as := [.int _, .int _]) (rest := []) rfl rfl (T_gh_isBelow (by omega)) ?_
    rintro _ _ ⟨rfl, rfl⟩
    change Y _ _ _ _ _ [.int _] _ _
    refine Y_if_eqb 11 rfl (pc2 := 24) rfl (tgt := 28) (by decide) (fun h21 => ?_) (fun h21 => ?_)
    · refine Y_iconst 14 rfl (pc2 := 29) rfl (v := nI 0) (by decide) ?_
      refine Y_iret 15 rfl rfl rfl ⟨rfl, ?_⟩
      first
        | exact pu_f (fun e => h5 e.1)
        | exact pu_t ⟨⟨c, hc, rfl⟩, by rw [nv_nI (by omega)]; exact h21⟩
        | exact pu_f (fun e => h21 (by have := e.2; rw [nv_nI (by omega)] at this; exact this))
    · refine Y_iconst 12 rfl (pc2 := 25) rfl (v := nI 1) (by decide) ?_
      refine Y_goto 13 rfl (pc2 := 29) (by decide) ?_
      refine Y_iret 15 rfl rfl rfl ⟨rfl, ?_⟩
      first
        | exact pu_f (fun e => h5 e.1)
        | exact pu_t ⟨⟨c, hc, rfl⟩, by rw [nv_nI (by omega)]; exact h21⟩
        | exact pu_f (fun e => h21 (by have := e.2; rw [nv_nI (by omega)] at this; exact this))

set_option maxHeartbeats 400000 in
theorem T_gh_hasStep {G : Nat × (Nat → Int32)} {m : Mm} {S : Mm} (h : RC m S) (w : WF S) {x y z : Int32} : Y G M_gh_hasStep (0, 0) 0 (en_ M_gh_hasStep [.ref (0), .int (x), .int (y), .int (z)]) [] (LAY, m) (qm_ LAY (pu_ (bI ((iR x 4 ∧ iR y 6) ∧ iR z (2 ^ (nv x + 1)))) m)) := by
  change Y _ _ _ _ [some (.ref _), some (.int _), some (.int _), some (.int _)] _ _ _
  refine Y_iload_n 0 rfl (pc2 := 1) rfl rfl ?_
  refine Y_iload_n 1 rfl (pc2 := 2) rfl rfl ?_
  refine Y_cS 2 rfl (pc2 := 5) rfl ok_gh_hasFigure lk_gh_127 vs_gh_hasFigure (as := [.int _, .int _]) (rest := []) rfl rfl T_gh_hasFigure ?_
  rintro _ _ ⟨rfl, rfl⟩
  change Y _ _ _ _ _ [.int _] _ _
  refine Y_if_eqb 3 rfl (pc2 := 8) rfl (tgt := 28) (by decide) (fun h5 => ?_) (fun h5 => ?_)
  · refine Y_iconst 14 rfl (pc2 := 29) rfl (v := nI 0) (by decide) ?_
    refine Y_iret 15 rfl rfl rfl ⟨rfl, ?_⟩
    first
      | exact pu_f (fun e => h5 e.1)
      | exact pu_t ⟨⟨⟨l, hl, rfl⟩, hy⟩, by rw [nv_nI (by omega)]; exact h21⟩
      | exact pu_f (fun e => h21 (by have := e.2; rw [nv_nI (by omega)] at this; exact this))
  · obtain ⟨⟨l, hl, rfl⟩, hy⟩ := h5
    have hz := sz_16 hl
    refine Y_iload_n 4 rfl (pc2 := 9) rfl rfl ?_
    refine Y_aload_n 5 rfl (pc2 := 10) rfl rfl ?_
    refine Y_getR 6 rfl (pc2 := 13) rfl fl_gh_31 ly_gh (by decide) rfl rfl (by omega) ?_
    refine Y_iload_n 7 rfl (pc2 := 14) rfl rfl ?_
    refine Y_aald 8 rfl (pc2 := 15) rfl ly_ghL (by decide) (fun _ => rfl) rfl (by omega) (by decide) (ly_ghL_at (by omega)) (by omega) ?_
    refine Y_getI 9 rfl (pc2 := 18) rfl fl_gh_138 (ly_le (by omega)) (by decide) rfl ?_
    refine Y_top (h.l _ (by omega)) ?_
    refine Y_cS 10 rfl (pc2 := 21) rfl ok_gh_isBelow lk_gh_80 vs_gh_isBelow (as := [.int _, .int _]) (rest := []) rfl rfl (T_gh_isBelow (by omega)) ?_
    rintro _ _ ⟨rfl, rfl⟩
    change Y _ _ _ _ _ [.int _] _ _
    refine Y_if_eqb 11 rfl (pc2 := 24) rfl (tgt := 28) (by decide) (fun h21 => ?_) (fun h21 => ?_)
    · refine Y_iconst 14 rfl (pc2 := 29) rfl (v := nI 0) (by decide) ?_
      refine Y_iret 15 rfl rfl rfl ⟨rfl, ?_⟩
      first
        | exact pu_f (fun e => h5 e.1)
        | exact pu_t ⟨⟨⟨l, hl, rfl⟩, hy⟩, by rw [nv_nI (by omega)]; exact h21⟩
        | exact pu_f (fun e => h21 (by have := e.2; rw [nv_nI (by omega)] at this; exact this))
    · refine Y_iconst 12 rfl (pc2 := 25) rfl (v := nI 1) (by decide) ?_
      refine Y_goto 13 rfl (pc2 := 29) (by decide) ?_
      refine Y_iret 15 rfl rfl rfl ⟨rfl, ?_⟩
      first
        | exact pu_f (fun e => h5 e.1)
        | exact pu_t ⟨⟨⟨l, hl, rfl⟩, hy⟩, by rw [nv_nI (by omega)]; exact h21⟩
        | exact pu_f (fun e => h21 (by have := e.2; rw [nv_nI (by omega)] at this; exact this))
