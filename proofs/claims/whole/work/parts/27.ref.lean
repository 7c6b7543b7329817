/-! the reference: its cells, its first methods -/
set_option maxHeartbeats 400000 in
theorem RM.e {m S : Mm} (h : RM m S) {a k : Nat} (h1 : 154 ≤ a) (h2 : a ≤ 166) : m a k = S a k := congrFun (h.1 a h1 h2) k
set_option maxHeartbeats 400000 in
theorem RM_uw {m S : Mm} {a k : Nat} {v : Int32} (h : RM m S) (h1 : 154 ≤ a) : RM (uw_ m a k v) (uw_ S a k v) := by
  refine ⟨fun b h3 h4 => funext fun j => ?_, ?_, ?_⟩
  · by_cases e : b = a ∧ j = k
    · obtain ⟨rfl, rfl⟩ := e
      rw [uw_same, uw_same]
    · rw [uw_ne e, uw_ne e]; exact h.e h3 h4
  · rw [uw_ne (by omega), uw_ne (by omega)]; exact h.2.1
  · rw [uw_ne (by omega), uw_ne (by omega)]; exact h.2.2
set_option maxHeartbeats 400000 in
theorem RM_ur {m S : Mm} {a : Nat} {row : Nat → Int32} (h : RM m S) (h1 : 154 ≤ a) : RM (ur_ m a row) (ur_ S a row) := by
  refine ⟨fun b h3 h4 => ?_, ?_, ?_⟩
  · by_cases e : b = a
    · subst e
      funext k
      rw [ur_same, ur_same]
    · rw [ur_ne e, ur_ne e]; exact h.1 b h3 h4
  · rw [ur_ne (by omega), ur_ne (by omega)]; exact h.2.1
  · rw [ur_ne (by omega), ur_ne (by omega)]; exact h.2.2
set_option maxHeartbeats 400000 in
theorem RM_6 {m S : Mm} {v : Int32} (h : RM m S) : RM (uw_ m 153 6 v) (uw_ S 153 6 v) :=
  ⟨fun b h3 h4 => funext fun j => by rw [uw_ne (by omega), uw_ne (by omega)]; exact h.e h3 h4, by rw [uw_same, uw_same], by rw [uw_ne (by omega), uw_ne (by omega)]; exact h.2.2⟩
set_option maxHeartbeats 400000 in
theorem RM_12 {m S : Mm} {v : Int32} (h : RM m S) : RM (uw_ m 153 12 v) (uw_ S 153 12 v) :=
  ⟨fun b h3 h4 => funext fun j => by rw [uw_ne (by omega), uw_ne (by omega)]; exact h.e h3 h4, by rw [uw_ne (by omega), uw_ne (by omega)]; exact h.2.1, by rw [uw_same, uw_same]⟩
set_option maxHeartbeats 400000 in
theorem RM_s {m S : Mm} {k : Nat} {v : Int32} (h : RM m S) (h1 : ¬ k = 6) (h2 : ¬ k = 12) : RM (uw_ m 153 k v) S :=
  ⟨fun b h3 h4 => funext fun j => by rw [uw_ne (by omega)]; exact h.e h3 h4, by rw [uw_ne (by omega)]; exact h.2.1, by rw [uw_ne (by omega)]; exact h.2.2⟩
set_option maxHeartbeats 400000 in
theorem RM_h {m S : Mm} {a k : Nat} {v : Int32} (h : RM m S) (h1 : 166 < a) : RM (uw_ m a k v) S :=
  ⟨fun b h3 h4 => funext fun j => by rw [uw_ne (by omega)]; exact h.e h3 h4, by rw [uw_ne (by omega)]; exact h.2.1, by rw [uw_ne (by omega)]; exact h.2.2⟩
set_option maxHeartbeats 400000 in
theorem pm_0 {m S : Mm} {x y : Int32} (h : RM m S) (e : y = x) : pm_ x m S (some (.int y)) m := ⟨by rw [e], h, fun _ _ => rfl⟩
set_option maxHeartbeats 400000 in
theorem pm_bad {m S S2 : Mm} {x y : Int32} (h : RM m S) (e : y = x) (e2 : S2 = S) : pm_ x m S2 (some (.int y)) m := by
  rw [e2]; exact pm_0 h e
set_option maxHeartbeats 400000 in
theorem pm_u {m S : Mm} {x y : Int32} {a k : Nat} {v : Int32} (ha : 153 ≤ a) (e : y = x) (h : RM (uw_ m a k v) S) : pm_ x m S (some (.int y)) (uw_ m a k v) := ⟨by rw [e], h, fun b hb => funext fun j => uw_ne (by omega)⟩
set_option maxHeartbeats 400000 in
theorem nI_bkn {b k n : Nat} (h : k ≤ b + n) : nI b - nI k + nI n = nI (b + n - k) := by
  have e : nI (b + n - k) + nI k = nI b + nI n := by rw [nI_add, nI_add]; congr 1; omega
  rw [Int32.sub_eq_add_neg, Int32.add_assoc, Int32.add_comm (-nI k), ← Int32.add_assoc, ← e, Int32.add_assoc, Int32.add_right_neg, Int32.add_zero]
set_option maxHeartbeats 400000 in
theorem mod_1 {b k n : Nat} (hb : b < n) (h : k ≤ b) : (b + n - k) % n = b - k := by
  rw [show b + n - k = b - k + n by omega, Nat.add_mod_right, Nat.mod_eq_of_lt (by omega)]
set_option maxHeartbeats 400000 in
theorem mod_2 {b k n : Nat} (hb : b < n) (h : b < k) (h2 : k ≤ n) : (b + n - k) % n = b + n - k := Nat.mod_eq_of_lt (by omega)
/-- what the search backwards has passed -/
def bk (R : Nat → Int32) (n b k : Nat) : Prop := if k ≤ b + 1 then ln R (b + 1) = ln R (b + 1 - k) else ln R (b + 1) < 0 ∧ ln R n = ln R (n + b + 1 - k)
set_option maxHeartbeats 400000 in
theorem bk_0 {R : Nat → Int32} {n b : Nat} : bk R n b 0 := by unfold bk; rw [if_pos (by omega)]; rfl
set_option maxHeartbeats 400000 in
theorem bk_s {R : Nat → Int32} {n b k : Nat} (hb : b < n) (hk : k < n) (h : bk R n b k) (hr : R ((b + n - k) % n) < 0) : bk R n b (k + 1) := by
  unfold bk at h ⊢
  by_cases e : k ≤ b
  · rw [mod_1 hb e] at hr
    rw [if_pos (by omega)] at h ⊢
    rw [h, show b + 1 - k = (b - k) + 1 by omega, show b + 1 - (k + 1) = b - k by omega]
    exact if_pos hr
  · rw [mod_2 hb (by omega) (by omega)] at hr
    rw [if_neg (by omega)]
    by_cases e2 : k = b + 1
    · rw [if_pos (by omega)] at h
      rw [show b + 1 - k = 0 by omega] at h
      refine ⟨by rw [h]; exact (by decide : (-1 : Int32) < 0), ?_⟩
      rw [show n + b + 1 - (k + 1) = n - 1 by omega]
      have hr2 : R (n - 1) < 0 := by rw [show n - 1 = b + n - k by omega]; exact hr
      have : ln R (n - 1 + 1) = ln R (n - 1) := if_pos hr2
      rw [show n - 1 + 1 = n by omega] at this
      exact this
    · rw [if_neg (by omega)] at h
      refine ⟨h.1, ?_⟩
      rw [h.2, show n + b + 1 - k = (b + n - k) + 1 by omega, show n + b + 1 - (k + 1) = b + n - k by omega]
      exact if_pos hr
set_option maxHeartbeats 400000 in
theorem bk_y {R : Nat → Int32} {n b k : Nat} (hb : b < n) (hk : k < n) (h : bk R n b k) (hr : ¬ R ((b + n - k) % n) < 0) : toneR R n b = R ((b + n - k) % n) := by
  unfold bk at h
  unfold toneR
  by_cases e : k ≤ b
  · rw [mod_1 hb e] at hr ⊢
    rw [if_pos (by omega), show b + 1 - k = (b - k) + 1 by omega] at h
    have : ln R (b - k + 1) = R (b - k) := if_neg hr
    rw [h, this, if_neg hr]
  · rw [mod_2 hb (by omega) (by omega)] at hr ⊢
    by_cases e2 : k = b + 1
    · rw [if_pos (by omega), show b + 1 - k = 0 by omega] at h
      have h0 : ln R (b + 1) < 0 := by rw [h]; exact (by decide : (-1 : Int32) < 0)
      have hr2 : ¬ R (n - 1) < 0 := by rw [show n - 1 = b + n - k by omega]; exact hr
      have : ln R (n - 1 + 1) = R (n - 1) := if_neg hr2
      rw [show n - 1 + 1 = n by omega] at this
      rw [if_pos h0, this, if_neg hr2]
      congr 1; omega
    · rw [if_neg (by omega), show n + b + 1 - k = (b + n - k) + 1 by omega] at h
      have : ln R (b + n - k + 1) = R (b + n - k) := if_neg hr
      rw [if_pos h.1, h.2, this, if_neg hr]
set_option maxHeartbeats 400000 in
theorem bk_e {R : Nat → Int32} {n b : Nat} (hb : b < n) (h : bk R n b n) : toneR R n b = nI 0 := by
  unfold bk at h
  unfold toneR
  by_cases e : n ≤ b + 1
  · rw [if_pos e, show b + 1 - n = 0 by omega] at h
    have h0 : ln R (b + 1) < 0 := by rw [h]; exact (by decide : (-1 : Int32) < 0)
    rw [if_pos h0, show n = b + 1 by omega, if_pos h0]
  · rw [if_neg e, show n + b + 1 - n = b + 1 by omega] at h
    rw [if_pos h.1, h.2, if_pos h.1]

set_option maxHeartbeats 400000 in
theorem T_mo_isBeat {G : Nat × (Nat → Int32)} {m : Mm} {S : Mm} (h : RM m S) (w : WF S) {x y : Int32} : Y G M_mo_isBeat (0, 0) 0 (en_ M_mo_isBeat [.ref (153), .int (x), .int (y)]) [] (LAY, m) (qm_ LAY (pu_ (bI (iR x 4 ∧ iR y (bt S (nv x)))) m)) := by
  change Y _ _ _ _ [some (.ref _), some (.int _), some (.int _)] _ _ _
  refine Y_iload_n 0 rfl (pc2 := 1) rfl rfl ?_
  refine Y_cS 1 rfl (pc2 := 4) rfl ok_mo_isCircle lk_mo_66 vs_mo_isCircle (as := [.int _]) (rest := []) rfl rfl T_mo_isCircle ?_
  rintro _ _ ⟨rfl, rfl⟩
  change Y _ _ _ _ _ [.int _] _ _
  refine Y_if_eqb 2 rfl (pc2 := 7) rfl (tgt := 27) (by decide) (fun h4 => ?_) (fun h4 => ?_)
  · refine Y_iconst 15 rfl (pc2 := 28) rfl (v := nI 0) (by decide) ?_
    refine Y_iret 16 rfl rfl rfl ⟨rfl, ?_⟩
    dsimp only
    first
      | exact pu_f (fun e => h4 e.1)
      | exact pu_t ⟨⟨c, hc, rfl⟩, by rw [nv_nI (by omega)]; exact h20⟩
      | exact pu_f (fun e => h20 (by have := e.2; rw [nv_nI (by omega)] at this; exact this))
  · obtain ⟨c, hc, rfl⟩ := h4
    have hn := (w.b c hc).2
    refine Y_iload_n 3 rfl (pc2 := 8) rfl rfl ?_
    refine Y_iconst 4 rfl (pc2 := 9) rfl (v := nI 0) (by decide) ?_
    refine Y_aload_n 5 rfl (pc2 := 10) rfl rfl ?_
    refine Y_getR 6 rfl (pc2 := 13) rfl fl_mo_7 ly_mo (by decide) rfl rfl (by omega) ?_
    refine Y_iload_n 7 rfl (pc2 := 14) rfl rfl ?_
    refine Y_iald 8 rfl (pc2 := 15) rfl ly_mo_beats rfl (by omega) (by decide) ?_
    refine Y_top ((h.e (by decide) (by decide)).trans (w.b _ (by omega)).1) ?_
    refine Y_iconst 9 rfl (pc2 := 16) rfl (v := nI 1) (by decide) ?_
    refine Y_isub 10 rfl (pc2 := 17) rfl ?_
    refine Y_cS 11 rfl (pc2 := 20) rfl ok_mo_isIn lk_mo_62 vs_mo_isIn (as := [.int _, .int _, .int _]) (rest := []) rfl rfl (T_mo_isInm (by omega)) ?_
    rintro _ _ ⟨rfl, rfl⟩
    change Y _ _ _ _ _ [.int _] _ _
    refine Y_if_eqb 12 rfl (pc2 := 23) rfl (tgt := 27) (by decide) (fun h20 => ?_) (fun h20 => ?_)
    · refine Y_iconst 15 rfl (pc2 := 28) rfl (v := nI 0) (by decide) ?_
      refine Y_iret 16 rfl rfl rfl ⟨rfl, ?_⟩
      dsimp only
      first
        | exact pu_f (fun e => h4 e.1)
        | exact pu_t ⟨⟨c, hc, rfl⟩, by rw [nv_nI (by omega)]; exact h20⟩
        | exact pu_f (fun e => h20 (by have := e.2; rw [nv_nI (by omega)] at this; exact this))
    · refine Y_iconst 13 rfl (pc2 := 24) rfl (v := nI 1) (by decide) ?_
      refine Y_goto 14 rfl (pc2 := 28) (by decide) ?_
      refine Y_iret 16 rfl rfl rfl ⟨rfl, ?_⟩
      dsimp only
      first
        | exact pu_f (fun e => h4 e.1)
        | exact pu_t ⟨⟨c, hc, rfl⟩, by rw [nv_nI (by omega)]; exact h20⟩
        | exact pu_f (fun e => h20 (by have := e.2; rw [nv_nI (by omega)] at this; exact this))

set_option maxHeartbeats 400000 in
theorem L_tone {G : Nat × (Nat → Int32)} {m : Mm} {S : Mm} (h : RM m S) (w : WF S) {c b : Nat} (hc : c < 4) (hb : b < bt S c) : ∀ k, k ≤ bt S c → bk (rw_ S c) (bt S c) b k → ∀ (u : Option Value), Y G M_mo_tone (0, 0) 10 [some (.ref 153), some (.int (nI c)), some (.int (nI b)), some (.int (nI (bt S c))), some (.int (nI k)), u] [] (LAY, m) (qm_ LAY (pu_ (tone S c b) m)) := by
  have hn := (w.b c hc).2
  refine ind_ (fun k hk0 ih hk u => ?_)
  refine Y_iload 7 rfl (pc2 := 12) rfl rfl ?_
  refine Y_iload_n 8 rfl (pc2 := 13) rfl rfl ?_
  refine Y_icmp_gen 9 rfl (pc2 := 16) rfl (tgt := 50) (by decide) (by omega) (by omega) (fun h13 => ?_) (fun h13 => ?_)
  · refine Y_iconst 31 rfl (pc2 := 51) rfl (v := nI 0) (by decide) ?_
    refine Y_iret 32 rfl rfl rfl ⟨rfl, ?_⟩
    dsimp only
    exact pu_i (bk_e hb (by rw [show k = bt S c by omega] at hk; exact hk)).symm
  · have hmod : (b + bt S c - k) % bt S c < bt S c := Nat.mod_lt _ (by omega)
    refine Y_aload_n 10 rfl (pc2 := 17) rfl rfl ?_
    refine Y_getR 11 rfl (pc2 := 20) rfl fl_mo_13 ly_mo (by decide) rfl rfl (by omega) ?_
    refine Y_bipush 12 rfl (pc2 := 22) rfl (v := nI 32) (by decide) ?_
    refine Y_iload_n 13 rfl (pc2 := 23) rfl rfl ?_
    refine Y_imul 14 rfl (pc2 := 24) rfl ?_
    refine Y_top (nI_mul _ _) ?_
    refine Y_iload_n 15 rfl (pc2 := 25) rfl rfl ?_
    refine Y_iload 16 rfl (pc2 := 27) rfl rfl ?_
    refine Y_isub 17 rfl (pc2 := 28) rfl ?_
    refine Y_iload_n 18 rfl (pc2 := 29) rfl rfl ?_
    refine Y_iadd 19 rfl (pc2 := 30) rfl ?_
    refine Y_top (nI_bkn (by omega)) ?_
    refine Y_iload_n 20 rfl (pc2 := 31) rfl rfl ?_
    refine Y_irem 21 rfl (pc2 := 32) rfl (by exact nI_ne0 (by omega) (by omega)) ?_
    refine Y_top (nI_rem (by omega) (by omega)) ?_
    refine Y_iadd 22 rfl (pc2 := 33) rfl ?_
    refine Y_top (nI_add _ _) ?_
    refine Y_iald 23 rfl (pc2 := 34) rfl ly_mo_notes rfl (by omega) (by decide) ?_
    refine Y_top (h.e (by decide) (by decide)) ?_
    refine Y_istore 24 rfl (pc2 := 36) rfl (Nat.le_of_ble_eq_true rfl) (ls2 := [some (.ref _), some (.int _), some (.int _), some (.int _), some (.int _), some (.int _)]) rfl ?_
    refine Y_iload 25 rfl (pc2 := 38) rfl rfl ?_
    refine Y_if_lt 26 rfl (pc2 := 41) rfl (tgt := 44) (by decide) (fun h38 => ?_) (fun h38 => ?_)
    · refine Y_iinc 29 rfl (pc2 := 47) rfl rfl (nI_inc _ 1) (ls2 := [some (.ref _), some (.int _), some (.int _), some (.int _), some (.int _), some (.int _)]) rfl ?_
      refine Y_goto 30 rfl (pc2 := 10) (by decide) ?_
      exact ih (k + 1) (by omega) (by omega) (bk_s hb (by omega) hk h38) _
    · refine Y_iload 27 rfl (pc2 := 43) rfl rfl ?_
      refine Y_iret 28 rfl rfl rfl ⟨rfl, ?_⟩
      dsimp only
      exact pu_i (bk_y hb (by omega) hk h38).symm

set_option maxHeartbeats 400000 in
theorem T_mo_tone {G : Nat × (Nat → Int32)} {m : Mm} {S : Mm} (h : RM m S) (w : WF S) {c b : Nat} (hc : c < 4) (hb : b < bt S c) : Y G M_mo_tone (0, 0) 0 (en_ M_mo_tone [.ref (153), .int (nI c), .int (nI b)]) [] (LAY, m) (qm_ LAY (pu_ (tone S c b) m)) := by
  change Y _ _ _ _ [some (.ref _), some (.int _), some (.int _), none, none, none] _ _ _
  refine Y_aload_n 0 rfl (pc2 := 1) rfl rfl ?_
  refine Y_getR 1 rfl (pc2 := 4) rfl fl_mo_7 ly_mo (by decide) rfl rfl (by omega) ?_
  refine Y_iload_n 2 rfl (pc2 := 5) rfl rfl ?_
  refine Y_iald 3 rfl (pc2 := 6) rfl ly_mo_beats rfl (by omega) (by decide) ?_
  refine Y_top ((h.e (by decide) (by decide)).trans (w.b _ (by omega)).1) ?_
  refine Y_istore_n 4 rfl (pc2 := 7) rfl (Nat.le_of_ble_eq_true rfl) (ls2 := [some (.ref _), some (.int _), some (.int _), some (.int _), none, none]) rfl ?_
  refine Y_iconst 5 rfl (pc2 := 8) rfl (v := nI 0) (by decide) ?_
  refine Y_istore 6 rfl (pc2 := 10) rfl (Nat.le_of_ble_eq_true rfl) (ls2 := [some (.ref _), some (.int _), some (.int _), some (.int _), some (.int _), none]) rfl ?_
  exact L_tone h w hc hb 0 (Nat.zero_le _) bk_0 _

set_option maxHeartbeats 400000 in
theorem T_mo_told {G : Nat × (Nat → Int32)} {m : Mm} {S : Mm} (h : RM m S) (w : WF S) {x y z : Int32} : Y G M_mo_told (0, 0) 0 (en_ M_mo_told [.ref (153), .int (x), .int (y), .int (z)]) [] (LAY, m) (qm_ LAY (pm_ (sp_told S x y z) m S)) := by
  change Y _ _ _ _ [some (.ref _), some (.int _), some (.int _), some (.int _), none] _ _ _
  refine Y_aload_n 0 rfl (pc2 := 1) rfl rfl ?_
  refine Y_iload_n 1 rfl (pc2 := 2) rfl rfl ?_
  refine Y_iload_n 2 rfl (pc2 := 3) rfl rfl ?_
  refine Y_cV 3 rfl (pc2 := 6) rfl ok_mo_isBeat lk_mo_113 vi_mo_isBeat ly_mo rfl (by decide) rfl (as := [.int _, .int _]) (rest := []) rfl rfl (T_mo_isBeat h w) ?_
  rintro _ _ ⟨rfl, rfl⟩
  change Y _ _ _ _ _ [.int _] _ _
  refine Y_if_eqb 4 rfl (pc2 := 9) rfl (tgt := 18) (by decide) (fun h6 => ?_) (fun h6 => ?_)
  · refine Y_ldc 10 rfl (pc2 := 20) rfl kc_mo_79 ?_
    refine Y_iret 11 rfl rfl rfl ⟨rfl, ?_⟩
    dsimp only
    first | exact pm_0 h (by unfold sp_told; rw [cI_f (fun e => h6 ⟨e.1, e.2.1⟩)]; rfl) | exact pm_0 h (by unfold sp_told; rw [cI_f (fun e => h15 e.2.2)]; rfl)
  · refine Y_iload_n 5 rfl (pc2 := 10) rfl rfl ?_
    refine Y_iconst 6 rfl (pc2 := 11) rfl (v := nI 0) (by decide) ?_
    refine Y_iconst 7 rfl (pc2 := 12) rfl (v := nI 2) (by decide) ?_
    refine Y_cS 8 rfl (pc2 := 15) rfl ok_mo_isIn lk_mo_62 vs_mo_isIn (as := [.int _, .int _, .int _]) (rest := []) rfl rfl (T_mo_isIn0 (by omega)) ?_
    rintro _ _ ⟨rfl, rfl⟩
    change Y _ _ _ _ _ [.int _] _ _
    refine Y_if_neb 9 rfl (pc2 := 18) rfl (tgt := 21) (by decide) (fun h15 => ?_) (fun h15 => ?_)
    · obtain ⟨⟨c, hc, rfl⟩, hy⟩ := h6
      rw [nv_nI (by omega)] at hy
      obtain ⟨b, hb, rfl⟩ := hy
      have hn := (w.b c hc).2
      obtain ⟨k, hk, rfl⟩ := h15
      refine Y_bipush 12 rfl (pc2 := 23) rfl (v := nI 32) (by decide) ?_
      refine Y_iload_n 13 rfl (pc2 := 24) rfl rfl ?_
      refine Y_imul 14 rfl (pc2 := 25) rfl ?_
      refine Y_top (nI_mul _ _) ?_
      refine Y_iload_n 15 rfl (pc2 := 26) rfl rfl ?_
      refine Y_iadd 16 rfl (pc2 := 27) rfl ?_
      refine Y_top (nI_add _ _) ?_
      refine Y_istore 17 rfl (pc2 := 29) rfl (Nat.le_of_ble_eq_true rfl) (ls2 := [some (.ref _), some (.int _), some (.int _), some (.int _), some (.int _)]) rfl ?_
      refine Y_iload_n 18 rfl (pc2 := 30) rfl rfl ?_
      refine Y_if_nen 19 rfl (pc2 := 33) rfl (tgt := 46) (by decide) (by omega) (fun h30 => ?_) (fun h30 => ?_)
      · refine Y_iload_n 26 rfl (pc2 := 47) rfl rfl ?_
        refine Y_iconst 27 rfl (pc2 := 48) rfl (v := nI 1) (by decide) ?_
        refine Y_icmp_nen 28 rfl (pc2 := 51) rfl (tgt := 60) (by decide) (by omega) (by omega) (fun h48 => ?_) (fun h48 => ?_)
        · refine Y_aload_n 34 rfl (pc2 := 61) rfl rfl ?_
          refine Y_getR 35 rfl (pc2 := 64) rfl fl_mo_16 ly_mo (by decide) rfl rfl (by omega) ?_
          refine Y_iload 36 rfl (pc2 := 66) rfl rfl ?_
          refine Y_iald 37 rfl (pc2 := 67) rfl ly_mo_gongs rfl (by omega) (by decide) ?_
          refine Y_top (h.e (by decide) (by decide)) ?_
          refine Y_cS 38 rfl (pc2 := 70) rfl ok_mo_orNone lk_mo_117 vs_mo_orNone (as := [.int _]) (rest := []) rfl rfl T_mo_orNone ?_
          rintro _ _ ⟨rfl, rfl⟩
          change Y _ _ _ _ _ [.int _] _ _
          refine Y_iret 39 rfl rfl rfl ⟨rfl, ?_⟩
          dsimp only
          first
            | exact pm_0 h (by unfold sp_told; rw [cI_t ⟨⟨c, hc, rfl⟩, by rw [nv_nI (by omega)]; exact ⟨b, hb, rfl⟩, ⟨k, hk, rfl⟩⟩, nv_nI (k := c) (by omega), nv_nI (k := b) (by omega)]; rw [if_pos (show nI k = nI 0 by rw [h30])]; rfl)
            | exact pm_0 h (by unfold sp_told; rw [cI_t ⟨⟨c, hc, rfl⟩, by rw [nv_nI (by omega)]; exact ⟨b, hb, rfl⟩, ⟨k, hk, rfl⟩⟩, nv_nI (k := c) (by omega), nv_nI (k := b) (by omega)]; rw [if_neg (show ¬ nI k = nI 0 from fun e => h30 ((nI_eq (by omega) (by decide)).mp e)), if_pos (show nI k = nI 1 by rw [show k = 1 by omega])])
            | exact pm_0 h (by unfold sp_told; rw [cI_t ⟨⟨c, hc, rfl⟩, by rw [nv_nI (by omega)]; exact ⟨b, hb, rfl⟩, ⟨k, hk, rfl⟩⟩, nv_nI (k := c) (by omega), nv_nI (k := b) (by omega)]; rw [if_neg (show ¬ nI k = nI 0 from fun e => h30 ((nI_eq (by omega) (by decide)).mp e)), if_neg (show ¬ nI k = nI 1 from fun e => h48 ((nI_eq (by omega) (by decide)).mp e))]; rfl)
        · refine Y_aload_n 29 rfl (pc2 := 52) rfl rfl ?_
          refine Y_iload_n 30 rfl (pc2 := 53) rfl rfl ?_
          refine Y_iload_n 31 rfl (pc2 := 54) rfl rfl ?_
          refine Y_cV 32 rfl (pc2 := 57) rfl ok_mo_tone lk_mo_120 vi_mo_tone ly_mo rfl (by decide) rfl (as := [.int _, .int _]) (rest := []) rfl rfl (T_mo_tone h w (by omega) (by omega)) ?_
          rintro _ _ ⟨rfl, rfl⟩
          change Y _ _ _ _ _ [.int _] _ _
          refine Y_goto 33 rfl (pc2 := 70) (by decide) ?_
          refine Y_iret 39 rfl rfl rfl ⟨rfl, ?_⟩
          dsimp only
          first
            | exact pm_0 h (by unfold sp_told; rw [cI_t ⟨⟨c, hc, rfl⟩, by rw [nv_nI (by omega)]; exact ⟨b, hb, rfl⟩, ⟨k, hk, rfl⟩⟩, nv_nI (k := c) (by omega), nv_nI (k := b) (by omega)]; rw [if_pos (show nI k = nI 0 by rw [h30])]; rfl)
            | exact pm_0 h (by unfold sp_told; rw [cI_t ⟨⟨c, hc, rfl⟩, by rw [nv_nI (by omega)]; exact ⟨b, hb, rfl⟩, ⟨k, hk, rfl⟩⟩, nv_nI (k := c) (by omega), nv_nI (k := b) (by omega)]; rw [if_neg (show ¬ nI k = nI 0 from fun e => h30 ((nI_eq (by omega) (by decide)).mp e)), if_pos (show nI k = nI 1 by rw [show k = 1 by omega])])
            | exact pm_0 h (by unfold sp_told; rw [cI_t ⟨⟨c, hc, rfl⟩, by rw [nv_nI (by omega)]; exact ⟨b, hb, rfl⟩, ⟨k, hk, rfl⟩⟩, nv_nI (k := c) (by omega), nv_nI (k := b) (by omega)]; rw [if_neg (show ¬ nI k = nI 0 from fun e => h30 ((nI_eq (by omega) (by decide)).mp e)), if_neg (show ¬ nI k = nI 1 from fun e => h48 ((nI_eq (by omega) (by decide)).mp e))]; rfl)
      · refine Y_aload_n 20 rfl (pc2 := 34) rfl rfl ?_
        refine Y_getR 21 rfl (pc2 := 37) rfl fl_mo_13 ly_mo (by decide) rfl rfl (by omega) ?_
        refine Y_iload 22 rfl (pc2 := 39) rfl rfl ?_
        refine Y_iald 23 rfl (pc2 := 40) rfl ly_mo_notes rfl (by omega) (by decide) ?_
        refine Y_top (h.e (by decide) (by decide)) ?_
        refine Y_cS 24 rfl (pc2 := 43) rfl ok_mo_orNone lk_mo_117 vs_mo_orNone (as := [.int _]) (rest := []) rfl rfl T_mo_orNone ?_
        rintro _ _ ⟨rfl, rfl⟩
        change Y _ _ _ _ _ [.int _] _ _
        refine Y_goto 25 rfl (pc2 := 70) (by decide) ?_
        refine Y_iret 39 rfl rfl rfl ⟨rfl, ?_⟩
        dsimp only
        first
          | exact pm_0 h (by unfold sp_told; rw [cI_t ⟨⟨c, hc, rfl⟩, by rw [nv_nI (by omega)]; exact ⟨b, hb, rfl⟩, ⟨k, hk, rfl⟩⟩, nv_nI (k := c) (by omega), nv_nI (k := b) (by omega)]; rw [if_pos (show nI k = nI 0 by rw [h30])]; rfl)
          | exact pm_0 h (by unfold sp_told; rw [cI_t ⟨⟨c, hc, rfl⟩, by rw [nv_nI (by omega)]; exact ⟨b, hb, rfl⟩, ⟨k, hk, rfl⟩⟩, nv_nI (k := c) (by omega), nv_nI (k := b) (by omega)]; rw [if_neg (show ¬ nI k = nI 0 from fun e => h30 ((nI_eq (by omega) (by decide)).mp e)), if_pos (show nI k = nI 1 by rw [show k = 1 by omega])])
          | exact pm_0 h (by unfold sp_told; rw [cI_t ⟨⟨c, hc, rfl⟩, by rw [nv_nI (by omega)]; exact ⟨b, hb, rfl⟩, ⟨k, hk, rfl⟩⟩, nv_nI (k := c) (by omega), nv_nI (k := b) (by omega)]; rw [if_neg (show ¬ nI k = nI 0 from fun e => h30 ((nI_eq (by omega) (by decide)).mp e)), if_neg (show ¬ nI k = nI 1 from fun e => h48 ((nI_eq (by omega) (by decide)).mp e))]; rfl)
    · refine Y_ldc 10 rfl (pc2 := 20) rfl kc_mo_79 ?_
      refine Y_iret 11 rfl rfl rfl ⟨rfl, ?_⟩
      dsimp only
      first | exact pm_0 h (by unfold sp_told; rw [cI_f (fun e => h6 ⟨e.1, e.2.1⟩)]; rfl) | exact pm_0 h (by unfold sp_told; rw [cI_f (fun e => h15 e.2.2)]; rfl)

set_option maxHeartbeats 400000 in
theorem T_mo_isOf {G : Nat × (Nat → Int32)} {m : Mm} {S : Mm} (h : RM m S) (w : WF S) {x y z : Int32} : Y G M_mo_isOf (0, 0) 0 (en_ M_mo_isOf [.ref (153), .int (x), .int (y), .int (z)]) [] (LAY, m) (qm_ LAY (pm_ (sp_isOf S x y z) m S)) := by
  change Y _ _ _ _ [some (.ref _), some (.int _), some (.int _), some (.int _), none] _ _ _
  refine Y_aload_n 0 rfl (pc2 := 1) rfl rfl ?_
  refine Y_iload_n 1 rfl (pc2 := 2) rfl rfl ?_
  refine Y_iload_n 2 rfl (pc2 := 3) rfl rfl ?_
  refine Y_cV 3 rfl (pc2 := 6) rfl ok_mo_isBeat lk_mo_113 vi_mo_isBeat ly_mo rfl (by decide) rfl (as := [.int _, .int _]) (rest := []) rfl rfl (T_mo_isBeat h w) ?_
  rintro _ _ ⟨rfl, rfl⟩
  change Y _ _ _ _ _ [.int _] _ _
  refine Y_if_eqb 4 rfl (pc2 := 9) rfl (tgt := 18) (by decide) (fun h6 => ?_) (fun h6 => ?_)
  · refine Y_ldc 10 rfl (pc2 := 20) rfl kc_mo_79 ?_
    refine Y_iret 11 rfl rfl rfl ⟨rfl, ?_⟩
    dsimp only
    first | exact pm_0 h (by unfold sp_isOf; rw [cI_f (fun e => h6 ⟨e.1, e.2.1⟩)]; rfl) | exact pm_0 h (by unfold sp_isOf; rw [cI_f (fun e => h15 e.2.2)]; rfl)
  · refine Y_iload_n 5 rfl (pc2 := 10) rfl rfl ?_
    refine Y_iconst 6 rfl (pc2 := 11) rfl (v := nI 0) (by decide) ?_
    refine Y_iconst 7 rfl (pc2 := 12) rfl (v := nI 3) (by decide) ?_
    refine Y_cS 8 rfl (pc2 := 15) rfl ok_mo_isIn lk_mo_62 vs_mo_isIn (as := [.int _, .int _, .int _]) (rest := []) rfl rfl (T_mo_isIn0 (by omega)) ?_
    rintro _ _ ⟨rfl, rfl⟩
    change Y _ _ _ _ _ [.int _] _ _
    refine Y_if_neb 9 rfl (pc2 := 18) rfl (tgt := 21) (by decide) (fun h15 => ?_) (fun h15 => ?_)
    · obtain ⟨⟨c, hc, rfl⟩, hy⟩ := h6
      rw [nv_nI (by omega)] at hy
      obtain ⟨b, hb, rfl⟩ := hy
      have hn := (w.b c hc).2
      obtain ⟨k, hk, rfl⟩ := h15
      have hor := w.g (32 * c + b) (by omega)
      refine Y_aload_n 12 rfl (pc2 := 22) rfl rfl ?_
      refine Y_getR 13 rfl (pc2 := 25) rfl fl_mo_16 ly_mo (by decide) rfl rfl (by omega) ?_
      refine Y_bipush 14 rfl (pc2 := 27) rfl (v := nI 32) (by decide) ?_
      refine Y_iload_n 15 rfl (pc2 := 28) rfl rfl ?_
      refine Y_imul 16 rfl (pc2 := 29) rfl ?_
      refine Y_top (nI_mul _ _) ?_
      refine Y_iload_n 17 rfl (pc2 := 30) rfl rfl ?_
      refine Y_iadd 18 rfl (pc2 := 31) rfl ?_
      refine Y_top (nI_add _ _) ?_
      refine Y_iald 19 rfl (pc2 := 32) rfl ly_mo_gongs rfl (by omega) (by decide) ?_
      refine Y_top (h.e (by decide) (by decide)) ?_
      refine Y_istore 20 rfl (pc2 := 34) rfl (Nat.le_of_ble_eq_true rfl) (ls2 := [some (.ref _), some (.int _), some (.int _), some (.int _), some (.int _)]) rfl ?_
      refine Y_iload 21 rfl (pc2 := 36) rfl rfl ?_
      refine Y_if_ge 22 rfl (pc2 := 39) rfl (tgt := 42) (by decide) (fun h36 => ?_) (fun h36 => ?_)
      · rcases hor with e0 | ⟨g, hg, e0⟩
        · exact absurd (by rw [e0]; decide) (Int32.not_lt.mpr h36)
        rw [e0]
        refine Y_iload_n 25 rfl (pc2 := 43) rfl rfl ?_
        refine Y_if_eqn 26 rfl (pc2 := 46) rfl (tgt := 63) (by decide) (by omega) (fun h43 => ?_) (fun h43 => ?_)
        · refine Y_iconst 36 rfl (pc2 := 64) rfl (v := nI 1) (by decide) ?_
          refine Y_goto 37 rfl (pc2 := 68) (by decide) ?_
          refine Y_iret 39 rfl rfl rfl ⟨rfl, ?_⟩
          dsimp only
          exact pm_0 h (by unfold sp_isOf; rw [cI_t ⟨⟨c, hc, rfl⟩, by rw [nv_nI (by omega)]; exact ⟨b, hb, rfl⟩, ⟨k, hk, rfl⟩⟩, nv_nI (k := c) (by omega), nv_nI (k := b) (by omega)]; rw [if_neg (Int32.not_lt.mpr h36), e0, nv_nI (by omega), nv_nI (by omega)]; first | (rw [bI_t (by omega)]; rfl) | (rw [bI_f (by omega)]; rfl))
        · refine Y_iload 27 rfl (pc2 := 48) rfl rfl ?_
          refine Y_iload_n 28 rfl (pc2 := 49) rfl rfl ?_
          refine Y_icmp_eqn 29 rfl (pc2 := 52) rfl (tgt := 63) (by decide) (by omega) (by omega) (fun h49 => ?_) (fun h49 => ?_)
          · refine Y_iconst 36 rfl (pc2 := 64) rfl (v := nI 1) (by decide) ?_
            refine Y_goto 37 rfl (pc2 := 68) (by decide) ?_
            refine Y_iret 39 rfl rfl rfl ⟨rfl, ?_⟩
            dsimp only
            exact pm_0 h (by unfold sp_isOf; rw [cI_t ⟨⟨c, hc, rfl⟩, by rw [nv_nI (by omega)]; exact ⟨b, hb, rfl⟩, ⟨k, hk, rfl⟩⟩, nv_nI (k := c) (by omega), nv_nI (k := b) (by omega)]; rw [if_neg (Int32.not_lt.mpr h36), e0, nv_nI (by omega), nv_nI (by omega)]; first | (rw [bI_t (by omega)]; rfl) | (rw [bI_f (by omega)]; rfl))
          · refine Y_iload_n 30 rfl (pc2 := 53) rfl rfl ?_
            refine Y_iconst 31 rfl (pc2 := 54) rfl (v := nI 2) (by decide) ?_
            refine Y_icmp_nen 32 rfl (pc2 := 57) rfl (tgt := 67) (by decide) (by omega) (by omega) (fun h54 => ?_) (fun h54 => ?_)
            · refine Y_iconst 38 rfl (pc2 := 68) rfl (v := nI 0) (by decide) ?_
              refine Y_iret 39 rfl rfl rfl ⟨rfl, ?_⟩
              dsimp only
              exact pm_0 h (by unfold sp_isOf; rw [cI_t ⟨⟨c, hc, rfl⟩, by rw [nv_nI (by omega)]; exact ⟨b, hb, rfl⟩, ⟨k, hk, rfl⟩⟩, nv_nI (k := c) (by omega), nv_nI (k := b) (by omega)]; rw [if_neg (Int32.not_lt.mpr h36), e0, nv_nI (by omega), nv_nI (by omega)]; first | (rw [bI_t (by omega)]; rfl) | (rw [bI_f (by omega)]; rfl))
            · refine Y_iload 33 rfl (pc2 := 59) rfl rfl ?_
              refine Y_iconst 34 rfl (pc2 := 60) rfl (v := nI 3) (by decide) ?_
              refine Y_icmp_nen 35 rfl (pc2 := 63) rfl (tgt := 67) (by decide) (by omega) (by omega) (fun h60 => ?_) (fun h60 => ?_)
              · refine Y_iconst 38 rfl (pc2 := 68) rfl (v := nI 0) (by decide) ?_
                refine Y_iret 39 rfl rfl rfl ⟨rfl, ?_⟩
                dsimp only
                exact pm_0 h (by unfold sp_isOf; rw [cI_t ⟨⟨c, hc, rfl⟩, by rw [nv_nI (by omega)]; exact ⟨b, hb, rfl⟩, ⟨k, hk, rfl⟩⟩, nv_nI (k := c) (by omega), nv_nI (k := b) (by omega)]; rw [if_neg (Int32.not_lt.mpr h36), e0, nv_nI (by omega), nv_nI (by omega)]; first | (rw [bI_t (by omega)]; rfl) | (rw [bI_f (by omega)]; rfl))
              · refine Y_iconst 36 rfl (pc2 := 64) rfl (v := nI 1) (by decide) ?_
                refine Y_goto 37 rfl (pc2 := 68) (by decide) ?_
                refine Y_iret 39 rfl rfl rfl ⟨rfl, ?_⟩
                dsimp only
                exact pm_0 h (by unfold sp_isOf; rw [cI_t ⟨⟨c, hc, rfl⟩, by rw [nv_nI (by omega)]; exact ⟨b, hb, rfl⟩, ⟨k, hk, rfl⟩⟩, nv_nI (k := c) (by omega), nv_nI (k := b) (by omega)]; rw [if_neg (Int32.not_lt.mpr h36), e0, nv_nI (by omega), nv_nI (by omega)]; first | (rw [bI_t (by omega)]; rfl) | (rw [bI_f (by omega)]; rfl))
      · refine Y_ldc 23 rfl (pc2 := 41) rfl kc_mo_111 ?_
        refine Y_iret 24 rfl rfl rfl ⟨rfl, ?_⟩
        dsimp only
        exact pm_0 h (by unfold sp_isOf; rw [cI_t ⟨⟨c, hc, rfl⟩, by rw [nv_nI (by omega)]; exact ⟨b, hb, rfl⟩, ⟨k, hk, rfl⟩⟩, nv_nI (k := c) (by omega), nv_nI (k := b) (by omega)]; rw [if_pos (Int32.not_le.mp h36)]; rfl)
    · refine Y_ldc 10 rfl (pc2 := 20) rfl kc_mo_79 ?_
      refine Y_iret 11 rfl rfl rfl ⟨rfl, ?_⟩
      dsimp only
      first | exact pm_0 h (by unfold sp_isOf; rw [cI_f (fun e => h6 ⟨e.1, e.2.1⟩)]; rfl) | exact pm_0 h (by unfold sp_isOf; rw [cI_f (fun e => h15 e.2.2)]; rfl)

set_option maxHeartbeats 400000 in
theorem T_mo_doesStrike {G : Nat × (Nat → Int32)} {m : Mm} {S : Mm} (h : RM m S) (w : WF S) {l f g s : Nat} (hl : l < 4) (hf : f < 6) (hg : g < 2) (hs : s < 16) : Y G M_mo_doesStrike (0, 0) 0 (en_ M_mo_doesStrike [.ref (153), .int (nI l), .int (nI f), .int (nI g), .int (nI s)]) [] (LAY, m) (qm_ LAY (pu_ (bI (¬ S 157 (ix l f g s) = -9)) m)) := by
  change Y _ _ _ _ [some (.ref _), some (.int _), some (.int _), some (.int _), some (.int _)] _ _ _
  refine Y_aload_n 0 rfl (pc2 := 1) rfl rfl ?_
  refine Y_getR 1 rfl (pc2 := 4) rfl fl_mo_19 ly_mo (by decide) rfl rfl (by omega) ?_
  refine Y_iload_n 2 rfl (pc2 := 5) rfl rfl ?_
  refine Y_iload_n 3 rfl (pc2 := 6) rfl rfl ?_
  refine Y_iload_n 4 rfl (pc2 := 7) rfl rfl ?_
  refine Y_iload 5 rfl (pc2 := 9) rfl rfl ?_
  refine Y_cS 6 rfl (pc2 := 12) rfl ok_mo_placeOf lk_mo_130 vs_mo_placeOf (as := [.int _, .int _, .int _, .int _]) (rest := [.ref _]) rfl rfl T_mo_placeOf ?_
  rintro _ _ ⟨rfl, rfl⟩
  change Y _ _ _ _ _ [.int _, .ref _] _ _
  refine Y_iald 7 rfl (pc2 := 13) rfl ly_mo_shifts rfl (by omega) (by decide) ?_
  refine Y_top (h.e (by decide) (by decide)) ?_
  refine Y_bipush 8 rfl (pc2 := 15) rfl (v := -9) (by decide) ?_
  refine Y_icmp_eq 9 rfl (pc2 := 18) rfl (tgt := 22) (by decide) (fun h15 => ?_) (fun h15 => ?_)
  · refine Y_iconst 12 rfl (pc2 := 23) rfl (v := nI 0) (by decide) ?_
    refine Y_iret 13 rfl rfl rfl ⟨rfl, ?_⟩
    dsimp only
    first | exact pu_t h15 | exact pu_f (not_not_intro h15)
  · refine Y_iconst 10 rfl (pc2 := 19) rfl (v := nI 1) (by decide) ?_
    refine Y_goto 11 rfl (pc2 := 23) (by decide) ?_
    refine Y_iret 13 rfl rfl rfl ⟨rfl, ?_⟩
    dsimp only
    first | exact pu_t h15 | exact pu_f (not_not_intro h15)

noncomputable def wM (S : Mm) (l f : Nat) : Int32 := cI (wS S l f < 2 ^ (l + 1)) (nI (wS S l f)) (-1)
set_option maxHeartbeats 400000 in
theorem wM_O {S : Mm} {l f : Nat} (hl : l < 4) : (if wM S l f < 0 then NONE_ else wM S l f) = wO S l f := by
  have hz := sz_16 hl
  unfold wM wO
  by_cases e : wS S l f < 2 ^ (l + 1)
  · rw [cI_t e, cI_t e, if_neg (nI_pos (by omega))]
  · rw [cI_f e, cI_f e, if_pos (by decide)]
set_option maxHeartbeats 400000 in
theorem wM_neg {S : Mm} {l f : Nat} (hl : l < 4) : wM S l f < 0 ↔ wS S l f = 2 ^ (l + 1) := by
  have hz := sz_16 hl
  have h1 : wS S l f ≤ 2 ^ (l + 1) := fst_le _
  unfold wM
  by_cases e : wS S l f < 2 ^ (l + 1)
  · rw [cI_t e]
    exact ⟨fun q => absurd q (nI_pos (by omega)), fun q => by omega⟩
  · rw [cI_f e]
    exact ⟨fun _ => by omega, fun _ => by decide⟩

set_option maxHeartbeats 400000 in
theorem L_wrongM {G : Nat × (Nat → Int32)} {m : Mm} {S : Mm} (h : RM m S) (w : WF S) {l f : Nat} (hl : l < 4) (hf : f < 6) : ∀ i, i ≤ 2 ^ (l + 1) → (∀ j, j < i → ¬ wr S l f j) → ∀ (u v : Option Value), Y G M_mo_wrongStep (0, 0) 2 [some (.ref 153), some (.int (nI l)), some (.int (nI f)), some (.int (nI i)), u, v] [] (LAY, m) (qm_ LAY (pu_ (wM S l f) m)) := by
  have hz := sz_16 hl
  refine ind_ (fun i hi ih hw u v => ?_)
  refine Y_iload_n 2 rfl (pc2 := 3) rfl rfl ?_
  refine Y_iload_n 3 rfl (pc2 := 4) rfl rfl ?_
  refine Y_cS 4 rfl (pc2 := 7) rfl ok_mo_stepsOf lk_mo_127 vs_mo_stepsOf (as := [.int _]) (rest := [.int _]) rfl rfl (T_mo_stepsOf (by omega)) ?_
  rintro _ _ ⟨rfl, rfl⟩
  change Y _ _ _ _ _ [.int _, .int _] _ _
  refine Y_icmp_gen 5 rfl (pc2 := 10) rfl (tgt := 77) (by decide) (by omega) (by omega) (fun h7 => ?_) (fun h7 => ?_)
  · refine Y_iconst 45 rfl (pc2 := 78) rfl (v := -1) (by decide) ?_
    refine Y_iret 46 rfl rfl rfl ⟨rfl, ?_⟩
    dsimp only
    exact pu_i (by unfold wM; have e := wO_no (S := S) (l := l) (f := f) (fun j hj => hw j (by omega)); rw [e, cI_f (by omega)])
  · refine Y_aload_n 6 rfl (pc2 := 11) rfl rfl ?_
    refine Y_iload_n 7 rfl (pc2 := 12) rfl rfl ?_
    refine Y_iload_n 8 rfl (pc2 := 13) rfl rfl ?_
    refine Y_iconst 9 rfl (pc2 := 14) rfl (v := nI 0) (by decide) ?_
    refine Y_iload_n 10 rfl (pc2 := 15) rfl rfl ?_
    refine Y_cV 11 rfl (pc2 := 18) rfl ok_mo_doesStrike lk_mo_139 vi_mo_doesStrike ly_mo rfl (by decide) rfl (as := [.int _, .int _, .int _, .int _]) (rest := []) rfl rfl (T_mo_doesStrike h w (by omega) (by omega) (by omega) (by omega)) ?_
    rintro _ _ ⟨rfl, rfl⟩
    change Y _ _ _ _ _ [.int _] _ _
    refine Y_istore 12 rfl (pc2 := 20) rfl (Nat.le_of_ble_eq_true rfl) (ls2 := [some (.ref _), some (.int _), some (.int _), some (.int _), some (.int _), _]) rfl ?_
    refine Y_aload_n 13 rfl (pc2 := 21) rfl rfl ?_
    refine Y_iload_n 14 rfl (pc2 := 22) rfl rfl ?_
    refine Y_iload_n 15 rfl (pc2 := 23) rfl rfl ?_
    refine Y_iconst 16 rfl (pc2 := 24) rfl (v := nI 1) (by decide) ?_
    refine Y_iload_n 17 rfl (pc2 := 25) rfl rfl ?_
    refine Y_cV 18 rfl (pc2 := 28) rfl ok_mo_doesStrike lk_mo_139 vi_mo_doesStrike ly_mo rfl (by decide) rfl (as := [.int _, .int _, .int _, .int _]) (rest := []) rfl rfl (T_mo_doesStrike h w (by omega) (by omega) (by omega) (by omega)) ?_
    rintro _ _ ⟨rfl, rfl⟩
    change Y _ _ _ _ _ [.int _] _ _
    refine Y_istore 19 rfl (pc2 := 30) rfl (Nat.le_of_ble_eq_true rfl) (ls2 := [some (.ref _), some (.int _), some (.int _), some (.int _), some (.int _), some (.int _)]) rfl ?_
    refine Y_iload 20 rfl (pc2 := 32) rfl rfl ?_
    refine Y_if_neb 21 rfl (pc2 := 35) rfl (tgt := 40) (by decide) (fun h32 => ?_) (fun h32 => ?_)
    · refine Y_iload 24 rfl (pc2 := 42) rfl rfl ?_
      refine Y_if_eqb 25 rfl (pc2 := 45) rfl (tgt := 71) (by decide) (fun h42 => ?_) (fun h42 => ?_)
      · refine Y_iinc 43 rfl (pc2 := 74) rfl rfl (nI_inc _ 1) (ls2 := [some (.ref _), some (.int _), some (.int _), some (.int _), some (.int _), some (.int _)]) rfl ?_
        refine Y_goto 44 rfl (pc2 := 2) (by decide) ?_
        exact ih (i + 1) (by omega) (by omega) (fun j hj => if e : j < i then hw j e else by
          rw [show j = i by omega]
          rintro (⟨e1, e2⟩ | ⟨e1, e2, e3⟩)
          · first | exact absurd e1 (by assumption) | exact absurd e2 (by assumption)
          · first | exact absurd (by assumption) e1 | exact absurd e3 (by assumption) | exact (by assumption : ¬ ¬ _) e1 | exact (by assumption : ¬ ¬ _) e2) _ _
      · refine Y_iload 26 rfl (pc2 := 47) rfl rfl ?_
        refine Y_if_eqb 27 rfl (pc2 := 50) rfl (tgt := 71) (by decide) (fun h47 => ?_) (fun h47 => ?_)
        · refine Y_iinc 43 rfl (pc2 := 74) rfl rfl (nI_inc _ 1) (ls2 := [some (.ref _), some (.int _), some (.int _), some (.int _), some (.int _), some (.int _)]) rfl ?_
          refine Y_goto 44 rfl (pc2 := 2) (by decide) ?_
          exact ih (i + 1) (by omega) (by omega) (fun j hj => if e : j < i then hw j e else by
            rw [show j = i by omega]
            rintro (⟨e1, e2⟩ | ⟨e1, e2, e3⟩)
            · first | exact absurd e1 (by assumption) | exact absurd e2 (by assumption)
            · first | exact absurd (by assumption) e1 | exact absurd e3 (by assumption) | exact (by assumption : ¬ ¬ _) e1 | exact (by assumption : ¬ ¬ _) e2) _ _
        · refine Y_aload_n 28 rfl (pc2 := 51) rfl rfl ?_
          refine Y_getR 29 rfl (pc2 := 54) rfl fl_mo_22 ly_mo (by decide) rfl rfl (by omega) ?_
          refine Y_bipush 30 rfl (pc2 := 56) rfl (v := nI 16) (by decide) ?_
          refine Y_bipush 31 rfl (pc2 := 58) rfl (v := nI 6) (by decide) ?_
          refine Y_iload_n 32 rfl (pc2 := 59) rfl rfl ?_
          refine Y_imul 33 rfl (pc2 := 60) rfl ?_
          refine Y_top (nI_mul _ _) ?_
          refine Y_iload_n 34 rfl (pc2 := 61) rfl rfl ?_
          refine Y_iadd 35 rfl (pc2 := 62) rfl ?_
          refine Y_top (nI_add _ _) ?_
          refine Y_imul 36 rfl (pc2 := 63) rfl ?_
          refine Y_top (nI_mul _ _) ?_
          refine Y_iload_n 37 rfl (pc2 := 64) rfl rfl ?_
          refine Y_iadd 38 rfl (pc2 := 65) rfl ?_
          refine Y_top (nI_add _ _) ?_
          refine Y_zald 39 rfl (pc2 := 66) rfl ly_mo_may rfl (by omega) (by decide) ?_
          refine Y_top (h.e (by decide) (by decide)) ?_
          refine Y_if_ne 40 rfl (pc2 := 69) rfl (tgt := 71) (by decide) (fun h66 => ?_) (fun h66 => ?_)
          · refine Y_iinc 43 rfl (pc2 := 74) rfl rfl (nI_inc _ 1) (ls2 := [some (.ref _), some (.int _), some (.int _), some (.int _), some (.int _), some (.int _)]) rfl ?_
            refine Y_goto 44 rfl (pc2 := 2) (by decide) ?_
            exact ih (i + 1) (by omega) (by omega) (fun j hj => if e : j < i then hw j e else by
              rw [show j = i by omega]
              rintro (⟨e1, e2⟩ | ⟨e1, e2, e3⟩)
              · first | exact absurd e1 (by assumption) | exact absurd e2 (by assumption)
              · first | exact absurd (by assumption) e1 | exact absurd e3 (by assumption) | exact (by assumption : ¬ ¬ _) e1 | exact (by assumption : ¬ ¬ _) e2) _ _
          · refine Y_iload_n 41 rfl (pc2 := 70) rfl rfl ?_
            refine Y_iret 42 rfl rfl rfl ⟨rfl, ?_⟩
            dsimp only
            exact pu_i (by unfold wM; have e := wO_is (l := l) (f := f) hw (by first | exact Or.inl ⟨Classical.byContradiction h32, Classical.byContradiction h37⟩ | exact Or.inr ⟨h42, h47, h66⟩) (by omega); rw [e, cI_t (by omega)])
    · refine Y_iload 22 rfl (pc2 := 37) rfl rfl ?_
      refine Y_if_eqb 23 rfl (pc2 := 40) rfl (tgt := 69) (by decide) (fun h37 => ?_) (fun h37 => ?_)
      · refine Y_iload_n 41 rfl (pc2 := 70) rfl rfl ?_
        refine Y_iret 42 rfl rfl rfl ⟨rfl, ?_⟩
        dsimp only
        exact pu_i (by unfold wM; have e := wO_is (l := l) (f := f) hw (by first | exact Or.inl ⟨Classical.byContradiction h32, Classical.byContradiction h37⟩ | exact Or.inr ⟨h42, h47, h66⟩) (by omega); rw [e, cI_t (by omega)])
      · refine Y_iload 24 rfl (pc2 := 42) rfl rfl ?_
        refine Y_if_eqb 25 rfl (pc2 := 45) rfl (tgt := 71) (by decide) (fun h42 => ?_) (fun h42 => ?_)
        · refine Y_iinc 43 rfl (pc2 := 74) rfl rfl (nI_inc _ 1) (ls2 := [some (.ref _), some (.int _), some (.int _), some (.int _), some (.int _), some (.int _)]) rfl ?_
          refine Y_goto 44 rfl (pc2 := 2) (by decide) ?_
          exact ih (i + 1) (by omega) (by omega) (fun j hj => if e : j < i then hw j e else by
            rw [show j = i by omega]
            rintro (⟨e1, e2⟩ | ⟨e1, e2, e3⟩)
            · first | exact absurd e1 (by assumption) | exact absurd e2 (by assumption)
            · first | exact absurd (by assumption) e1 | exact absurd e3 (by assumption) | exact (by assumption : ¬ ¬ _) e1 | exact (by assumption : ¬ ¬ _) e2) _ _
        · refine Y_iload 26 rfl (pc2 := 47) rfl rfl ?_
          refine Y_if_eqb 27 rfl (pc2 := 50) rfl (tgt := 71) (by decide) (fun h47 => ?_) (fun h47 => ?_)
          · refine Y_iinc 43 rfl (pc2 := 74) rfl rfl (nI_inc _ 1) (ls2 := [some (.ref _), some (.int _), some (.int _), some (.int _), some (.int _), some (.int _)]) rfl ?_
            refine Y_goto 44 rfl (pc2 := 2) (by decide) ?_
            exact ih (i + 1) (by omega) (by omega) (fun j hj => if e : j < i then hw j e else by
              rw [show j = i by omega]
              rintro (⟨e1, e2⟩ | ⟨e1, e2, e3⟩)
              · first | exact absurd e1 (by assumption) | exact absurd e2 (by assumption)
              · first | exact absurd (by assumption) e1 | exact absurd e3 (by assumption) | exact (by assumption : ¬ ¬ _) e1 | exact (by assumption : ¬ ¬ _) e2) _ _
          · refine Y_aload_n 28 rfl (pc2 := 51) rfl rfl ?_
            refine Y_getR 29 rfl (pc2 := 54) rfl fl_mo_22 ly_mo (by decide) rfl rfl (by omega) ?_
            refine Y_bipush 30 rfl (pc2 := 56) rfl (v := nI 16) (by decide) ?_
            refine Y_bipush 31 rfl (pc2 := 58) rfl (v := nI 6) (by decide) ?_
            refine Y_iload_n 32 rfl (pc2 := 59) rfl rfl ?_
            refine Y_imul 33 rfl (pc2 := 60) rfl ?_
            refine Y_top (nI_mul _ _) ?_
            refine Y_iload_n 34 rfl (pc2 := 61) rfl rfl ?_
            refine Y_iadd 35 rfl (pc2 := 62) rfl ?_
            refine Y_top (nI_add _ _) ?_
            refine Y_imul 36 rfl (pc2 := 63) rfl ?_
            refine Y_top (nI_mul _ _) ?_
            refine Y_iload_n 37 rfl (pc2 := 64) rfl rfl ?_
            refine Y_iadd 38 rfl (pc2 := 65) rfl ?_
            refine Y_top (nI_add _ _) ?_
            refine Y_zald 39 rfl (pc2 := 66) rfl ly_mo_may rfl (by omega) (by decide) ?_
            refine Y_top (h.e (by decide) (by decide)) ?_
            refine Y_if_ne 40 rfl (pc2 := 69) rfl (tgt := 71) (by decide) (fun h66 => ?_) (fun h66 => ?_)
            · refine Y_iinc 43 rfl (pc2 := 74) rfl rfl (nI_inc _ 1) (ls2 := [some (.ref _), some (.int _), some (.int _), some (.int _), some (.int _), some (.int _)]) rfl ?_
              refine Y_goto 44 rfl (pc2 := 2) (by decide) ?_
              exact ih (i + 1) (by omega) (by omega) (fun j hj => if e : j < i then hw j e else by
                rw [show j = i by omega]
                rintro (⟨e1, e2⟩ | ⟨e1, e2, e3⟩)
                · first | exact absurd e1 (by assumption) | exact absurd e2 (by assumption)
                · first | exact absurd (by assumption) e1 | exact absurd e3 (by assumption) | exact (by assumption : ¬ ¬ _) e1 | exact (by assumption : ¬ ¬ _) e2) _ _
            · refine Y_iload_n 41 rfl (pc2 := 70) rfl rfl ?_
              refine Y_iret 42 rfl rfl rfl ⟨rfl, ?_⟩
              dsimp only
              exact pu_i (by unfold wM; have e := wO_is (l := l) (f := f) hw (by first | exact Or.inl ⟨Classical.byContradiction h32, Classical.byContradiction h37⟩ | exact Or.inr ⟨h42, h47, h66⟩) (by omega); rw [e, cI_t (by omega)])

set_option maxHeartbeats 400000 in
theorem T_mo_wrongStep {G : Nat × (Nat → Int32)} {m : Mm} {S : Mm} (h : RM m S) (w : WF S) {l f : Nat} (hl : l < 4) (hf : f < 6) : Y G M_mo_wrongStep (0, 0) 0 (en_ M_mo_wrongStep [.ref (153), .int (nI l), .int (nI f)]) [] (LAY, m) (qm_ LAY (pu_ (wM S l f) m)) := by
  change Y _ _ _ _ [some (.ref _), some (.int _), some (.int _), none, none, none] _ _ _
  refine Y_iconst 0 rfl (pc2 := 1) rfl (v := nI 0) (by decide) ?_
  refine Y_istore_n 1 rfl (pc2 := 2) rfl (Nat.le_of_ble_eq_true rfl) (ls2 := [some (.ref _), some (.int _), some (.int _), some (.int _), none, none]) rfl ?_
  exact L_wrongM h w hl hf 0 (Nat.zero_le _) (fun j hj => absurd hj (Nat.not_lt_zero j)) _ _

set_option maxHeartbeats 400000 in
theorem T_mo_wrong {G : Nat × (Nat → Int32)} {m : Mm} {S : Mm} (h : RM m S) (w : WF S) {x y : Int32} : Y G M_mo_wrong (0, 0) 0 (en_ M_mo_wrong [.ref (153), .int (x), .int (y)]) [] (LAY, m) (qm_ LAY (pm_ (sp_wrong S x y) m S)) := by
  change Y _ _ _ _ [some (.ref _), some (.int _), some (.int _)] _ _ _
  refine Y_iload_n 0 rfl (pc2 := 1) rfl rfl ?_
  refine Y_iload_n 1 rfl (pc2 := 2) rfl rfl ?_
  refine Y_cS 2 rfl (pc2 := 5) rfl ok_mo_isFigure lk_mo_124 vs_mo_isFigure (as := [.int _, .int _]) (rest := []) rfl rfl T_mo_isFigure ?_
  rintro _ _ ⟨rfl, rfl⟩
  change Y _ _ _ _ _ [.int _] _ _
  refine Y_if_eqb 3 rfl (pc2 := 8) rfl (tgt := 20) (by decide) (fun h5 => ?_) (fun h5 => ?_)
  · refine Y_ldc 10 rfl (pc2 := 22) rfl kc_mo_79 ?_
    refine Y_iret 11 rfl rfl rfl ⟨rfl, ?_⟩
    dsimp only
    first | exact pm_0 h (by unfold sp_wrong; rw [cI_f h5]; rfl) | exact pm_0 h (by unfold sp_wrong; rw [cI_t ⟨⟨l, hl, rfl⟩, ⟨f, hf, rfl⟩⟩, nv_nI (by omega), nv_nI (by omega)]; exact wM_O hl)
  · obtain ⟨⟨l, hl, rfl⟩, ⟨f, hf, rfl⟩⟩ := h5
    refine Y_aload_n 4 rfl (pc2 := 9) rfl rfl ?_
    refine Y_iload_n 5 rfl (pc2 := 10) rfl rfl ?_
    refine Y_iload_n 6 rfl (pc2 := 11) rfl rfl ?_
    refine Y_cV 7 rfl (pc2 := 14) rfl ok_mo_wrongStep lk_mo_143 vi_mo_wrongStep ly_mo rfl (by decide) rfl (as := [.int _, .int _]) (rest := []) rfl rfl (T_mo_wrongStep h w (by omega) (by omega)) ?_
    rintro _ _ ⟨rfl, rfl⟩
    change Y _ _ _ _ _ [.int _] _ _
    refine Y_cS 8 rfl (pc2 := 17) rfl ok_mo_orNone lk_mo_117 vs_mo_orNone (as := [.int _]) (rest := []) rfl rfl T_mo_orNone ?_
    rintro _ _ ⟨rfl, rfl⟩
    change Y _ _ _ _ _ [.int _] _ _
    refine Y_goto 9 rfl (pc2 := 22) (by decide) ?_
    refine Y_iret 11 rfl rfl rfl ⟨rfl, ?_⟩
    dsimp only
    first | exact pm_0 h (by unfold sp_wrong; rw [cI_f h5]; rfl) | exact pm_0 h (by unfold sp_wrong; rw [cI_t ⟨⟨l, hl, rfl⟩, ⟨f, hf, rfl⟩⟩, nv_nI (by omega), nv_nI (by omega)]; exact wM_O hl)
