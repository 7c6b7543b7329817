/-! small methods -/
def ky (t s : Int32) : Int32 := if t + s < 0 then t + s + nI 5 else if nI 9 < t + s then t + s - nI 5 else t + s
def NONE_ : Int32 := -1000000005
def BAD_ : Int32 := -1000000001
set_option maxHeartbeats 400000 in
theorem T_gh_isBelow {G : Nat × (Nat → Int32)} {m : Mm} {x : Int32} {n : Nat} (hn : n < 2 ^ 31) : Y G M_gh_isBelow (0, 0) 0 (en_ M_gh_isBelow [.int (x), .int (nI n)]) [] (LAY, m) (qm_ LAY (pu_ (bI (iR x n)) m)) := by
  change Y _ _ _ _ [some (.int _), some (.int _)] _ _ _
  refine Y_iload_n 0 rfl rfl rfl ?_
  refine Y_if_lt 1 rfl rfl (tgt := 13) (by decide) (fun h1 => ?_) (fun h1 => ?_)
  · refine Y_iconst 7 rfl rfl (v := nI 0) (by decide) ?_
    refine Y_iret 8 rfl rfl rfl ⟨rfl, ?_⟩
    first | exact pu_t (iR_of hn h1 h6) | exact pu_f (fun e => (iR_ge hn e).1 h1) | exact pu_f (fun e => (iR_ge hn e).2 h6)
  · refine Y_iload_n 2 rfl rfl rfl ?_
    refine Y_iload_n 3 rfl rfl rfl ?_
    refine Y_icmp_ge 4 rfl rfl (tgt := 13) (by decide) (fun h6 => ?_) (fun h6 => ?_)
    · refine Y_iconst 7 rfl rfl (v := nI 0) (by decide) ?_
      refine Y_iret 8 rfl rfl rfl ⟨rfl, ?_⟩
      first | exact pu_t (iR_of hn h1 h6) | exact pu_f (fun e => (iR_ge hn e).1 h1) | exact pu_f (fun e => (iR_ge hn e).2 h6)
    · refine Y_iconst 5 rfl rfl (v := nI 1) (by decide) ?_
      refine Y_goto 6 rfl (pc2 := 14) (by decide) ?_
      refine Y_iret 8 rfl rfl rfl ⟨rfl, ?_⟩
      first | exact pu_t (iR_of hn h1 h6) | exact pu_f (fun e => (iR_ge hn e).1 h1) | exact pu_f (fun e => (iR_ge hn e).2 h6)

set_option maxHeartbeats 400000 in
theorem T_gh_isShift {G : Nat × (Nat → Int32)} {m : Mm} {x : Int32} : Y G M_gh_isShift (0, 0) 0 (en_ M_gh_isShift [.int (x)]) [] (LAY, m) (qm_ LAY (pu_ (bI (-4 ≤ x ∧ x ≤ nI 4)) m)) := by
  change Y _ _ _ _ [some (.int _)] _ _ _
  refine Y_iload_n 0 rfl rfl rfl ?_
  refine Y_bipush 1 rfl rfl (v := -4) (by decide) ?_
  refine Y_icmp_lt 2 rfl rfl (tgt := 15) (by decide) (fun h3 => ?_) (fun h3 => ?_)
  · refine Y_iconst 8 rfl rfl (v := nI 0) (by decide) ?_
    refine Y_iret 9 rfl rfl rfl ⟨rfl, ?_⟩
    first | exact pu_t (by refine ⟨?_, ?_⟩ <;> simp only [Int32.lt_iff_toInt_lt, Int32.le_iff_toInt_le] at * <;> omega) | exact pu_f (by intro e; obtain ⟨e1, e2⟩ := e; simp only [Int32.lt_iff_toInt_lt, Int32.le_iff_toInt_le] at *; omega)
  · refine Y_iload_n 3 rfl rfl rfl ?_
    refine Y_iconst 4 rfl rfl (v := nI 4) (by decide) ?_
    refine Y_icmp_gt 5 rfl rfl (tgt := 15) (by decide) (fun h8 => ?_) (fun h8 => ?_)
    · refine Y_iconst 8 rfl rfl (v := nI 0) (by decide) ?_
      refine Y_iret 9 rfl rfl rfl ⟨rfl, ?_⟩
      first | exact pu_t (by refine ⟨?_, ?_⟩ <;> simp only [Int32.lt_iff_toInt_lt, Int32.le_iff_toInt_le] at * <;> omega) | exact pu_f (by intro e; obtain ⟨e1, e2⟩ := e; simp only [Int32.lt_iff_toInt_lt, Int32.le_iff_toInt_le] at *; omega)
    · refine Y_iconst 6 rfl rfl (v := nI 1) (by decide) ?_
      refine Y_goto 7 rfl (pc2 := 16) (by decide) ?_
      refine Y_iret 9 rfl rfl rfl ⟨rfl, ?_⟩
      first | exact pu_t (by refine ⟨?_, ?_⟩ <;> simp only [Int32.lt_iff_toInt_lt, Int32.le_iff_toInt_le] at * <;> omega) | exact pu_f (by intro e; obtain ⟨e1, e2⟩ := e; simp only [Int32.lt_iff_toInt_lt, Int32.le_iff_toInt_le] at *; omega)

set_option maxHeartbeats 400000 in
theorem T_gh_isLevelOrNone {G : Nat × (Nat → Int32)} {m : Mm} {x : Int32} : Y G M_gh_isLevelOrNone (0, 0) 0 (en_ M_gh_isLevelOrNone [.int (x)]) [] (LAY, m) (qm_ LAY (pu_ (bI (x = NONE_ ∨ iR x 4)) m)) := by
  change Y _ _ _ _ [some (.int _)] _ _ _
  refine Y_iload_n 0 rfl rfl rfl ?_
  refine Y_ldc 1 rfl rfl kc_gh_84 ?_
  refine Y_icmp_eq 2 rfl rfl (tgt := 14) (by decide) (fun h3 => ?_) (fun h3 => ?_)
  · refine Y_iconst 7 rfl rfl (v := nI 1) (by decide) ?_
    refine Y_goto 8 rfl (pc2 := 19) (by decide) ?_
    refine Y_iret 10 rfl rfl rfl ⟨rfl, ?_⟩
    first | exact pu_t (Or.inl h3) | exact pu_t (Or.inr h11) | exact pu_f (fun e => e.elim h3 h11)
  · refine Y_iload_n 3 rfl rfl rfl ?_
    refine Y_iconst 4 rfl rfl (v := nI 4) (by decide) ?_
    refine Y_cS 5 rfl rfl ok_gh_isBelow lk_gh_80 vs_gh_isBelow (as := [.int _, .int _]) (rest := []) rfl rfl (T_gh_isBelow (by omega)) ?_
    rintro _ _ ⟨rfl, rfl⟩
    change Y _ _ _ _ _ [.int _] _ _
    refine Y_if_eqb 6 rfl rfl (tgt := 18) (by decide) (fun h11 => ?_) (fun h11 => ?_)
    · refine Y_iconst 9 rfl rfl (v := nI 0) (by decide) ?_
      refine Y_iret 10 rfl rfl rfl ⟨rfl, ?_⟩
      first | exact pu_t (Or.inl h3) | exact pu_t (Or.inr h11) | exact pu_f (fun e => e.elim h3 h11)
    · refine Y_iconst 7 rfl rfl (v := nI 1) (by decide) ?_
      refine Y_goto 8 rfl (pc2 := 19) (by decide) ?_
      refine Y_iret 10 rfl rfl rfl ⟨rfl, ?_⟩
      first | exact pu_t (Or.inl h3) | exact pu_t (Or.inr h11) | exact pu_f (fun e => e.elim h3 h11)

set_option maxHeartbeats 400000 in
theorem T_gh_isHalfPlayer {G : Nat × (Nat → Int32)} {m : Mm} {x : Int32} : Y G M_gh_isHalfPlayer (0, 0) 0 (en_ M_gh_isHalfPlayer [.int (x)]) [] (LAY, m) (qm_ LAY (pu_ (bI (0 < x ∧ x < nI 3)) m)) := by
  change Y _ _ _ _ [some (.int _)] _ _ _
  refine Y_iload_n 0 rfl rfl rfl ?_
  refine Y_if_le 1 rfl rfl (tgt := 13) (by decide) (fun h1 => ?_) (fun h1 => ?_)
  · refine Y_iconst 7 rfl rfl (v := nI 0) (by decide) ?_
    refine Y_iret 8 rfl rfl rfl ⟨rfl, ?_⟩
    first | exact pu_t (by simp_all) | exact pu_f (fun e => absurd e.1 h1.not_gt) | exact pu_f (fun e => h1 e.1) | exact pu_f (fun e => Int32.not_le.mpr e.2 h6)| exact pu_f (fun e => Int32.not_le.mpr e.1 h1)
  · refine Y_iload_n 2 rfl rfl rfl ?_
    refine Y_iconst 3 rfl rfl (v := nI 3) (by decide) ?_
    refine Y_icmp_ge 4 rfl rfl (tgt := 13) (by decide) (fun h6 => ?_) (fun h6 => ?_)
    · refine Y_iconst 7 rfl rfl (v := nI 0) (by decide) ?_
      refine Y_iret 8 rfl rfl rfl ⟨rfl, ?_⟩
      first | exact pu_t (by simp_all) | exact pu_f (fun e => absurd e.1 h1.not_gt) | exact pu_f (fun e => h1 e.1) | exact pu_f (fun e => Int32.not_le.mpr e.2 h6)| exact pu_f (fun e => Int32.not_le.mpr e.1 h1)
    · refine Y_iconst 5 rfl rfl (v := nI 1) (by decide) ?_
      refine Y_goto 6 rfl (pc2 := 14) (by decide) ?_
      refine Y_iret 8 rfl rfl rfl ⟨rfl, ?_⟩
      first | exact pu_t (by simp_all) | exact pu_f (fun e => absurd e.1 h1.not_gt) | exact pu_f (fun e => h1 e.1) | exact pu_f (fun e => Int32.not_le.mpr e.2 h6)| exact pu_f (fun e => Int32.not_le.mpr e.1 h1)

set_option maxHeartbeats 400000 in
theorem T_gh_keyOf {G : Nat × (Nat → Int32)} {m : Mm} {x y : Int32} : Y G M_gh_keyOf (0, 0) 0 (en_ M_gh_keyOf [.int (x), .int (y)]) [] (LAY, m) (qm_ LAY (pu_ (ky x y) m)) := by
  change Y _ _ _ _ [some (.int _), some (.int _), none] _ _ _
  refine Y_iload_n 0 rfl rfl rfl ?_
  refine Y_iload_n 1 rfl rfl rfl ?_
  refine Y_iadd 2 rfl rfl ?_
  refine Y_istore_n 3 rfl rfl (Nat.le_of_ble_eq_true rfl) (ls2 := [some (.int _), some (.int _), some (.int _)]) rfl ?_
  refine Y_iload_n 4 rfl rfl rfl ?_
  refine Y_if_ge 5 rfl rfl (tgt := 12) (by decide) (fun h5 => ?_) (fun h5 => ?_)
  · refine Y_iload_n 10 rfl rfl rfl ?_
    refine Y_bipush 11 rfl rfl (v := nI 9) (by decide) ?_
    refine Y_icmp_le 12 rfl rfl (tgt := 24) (by decide) (fun h15 => ?_) (fun h15 => ?_)
    · refine Y_iload_n 17 rfl rfl rfl ?_
      refine Y_iret 18 rfl rfl rfl ⟨rfl, ?_⟩
      exact pu_i (by unfold ky; (repeat' split) <;> first | rfl | (exfalso; simp only [Int32.lt_iff_toInt_lt, Int32.le_iff_toInt_le] at *; omega))
    · refine Y_iload_n 13 rfl rfl rfl ?_
      refine Y_iconst 14 rfl rfl (v := nI 5) (by decide) ?_
      refine Y_isub 15 rfl rfl ?_
      refine Y_goto 16 rfl (pc2 := 25) (by decide) ?_
      refine Y_iret 18 rfl rfl rfl ⟨rfl, ?_⟩
      exact pu_i (by unfold ky; (repeat' split) <;> first | rfl | (exfalso; simp only [Int32.lt_iff_toInt_lt, Int32.le_iff_toInt_le] at *; omega))
  · refine Y_iload_n 6 rfl rfl rfl ?_
    refine Y_iconst 7 rfl rfl (v := nI 5) (by decide) ?_
    refine Y_iadd 8 rfl rfl ?_
    refine Y_iret 9 rfl rfl rfl ⟨rfl, ?_⟩
    exact pu_i (by unfold ky; (repeat' split) <;> first | rfl | (exfalso; simp only [Int32.lt_iff_toInt_lt, Int32.le_iff_toInt_le] at *; omega))

set_option maxHeartbeats 400000 in
theorem T_wa_toldOr {G : Nat × (Nat → Int32)} {m : Mm} {x y : Int32} : Y G M_wa_toldOr (0, 0) 0 (en_ M_wa_toldOr [.int (x), .int (y)]) [] (LAY, m) (qm_ LAY (pu_ (if x = NONE_ then y else x) m)) := by
  change Y _ _ _ _ [some (.int _), some (.int _)] _ _ _
  refine Y_iload_n 0 rfl rfl rfl ?_
  refine Y_ldc 1 rfl rfl kc_wa_51 ?_
  refine Y_icmp_ne 2 rfl rfl (tgt := 10) (by decide) (fun h3 => ?_) (fun h3 => ?_)
  · refine Y_iload_n 5 rfl rfl rfl ?_
    refine Y_iret 6 rfl rfl rfl ⟨rfl, ?_⟩
    exact pu_i (by unfold NONE_; simp_all)
  · refine Y_iload_n 3 rfl rfl rfl ?_
    refine Y_goto 4 rfl (pc2 := 11) (by decide) ?_
    refine Y_iret 6 rfl rfl rfl ⟨rfl, ?_⟩
    exact pu_i (by unfold NONE_; simp_all)

set_option maxHeartbeats 400000 in
theorem T_gh_hasFigure {G : Nat × (Nat → Int32)} {m : Mm} {x y : Int32} : Y G M_gh_hasFigure (0, 0) 0 (en_ M_gh_hasFigure [.int (x), .int (y)]) [] (LAY, m) (qm_ LAY (pu_ (bI (iR x 4 ∧ iR y 6)) m)) := by
  change Y _ _ _ _ [some (.int _), some (.int _)] _ _ _
  refine Y_iload_n 0 rfl rfl rfl ?_
  refine Y_iconst 1 rfl rfl (v := nI 4) (by decide) ?_
  refine Y_cS 2 rfl rfl ok_gh_isBelow lk_gh_80 vs_gh_isBelow (as := [.int _, .int _]) (rest := []) rfl rfl (T_gh_isBelow (by omega)) ?_
  rintro _ _ ⟨rfl, rfl⟩
  change Y _ _ _ _ _ [.int _] _ _
  refine Y_if_eqb 3 rfl rfl (tgt := 21) (by decide) (fun h5 => ?_) (fun h5 => ?_)
  · refine Y_iconst 10 rfl rfl (v := nI 0) (by decide) ?_
    refine Y_iret 11 rfl rfl rfl ⟨rfl, ?_⟩
    first | exact pu_t ⟨by assumption, by assumption⟩ | exact pu_f (fun e => absurd e.1 (by assumption)) | exact pu_f (fun e => absurd e.2 (by assumption))
  · refine Y_iload_n 4 rfl rfl rfl ?_
    refine Y_bipush 5 rfl rfl (v := nI 6) (by decide) ?_
    refine Y_cS 6 rfl rfl ok_gh_isBelow lk_gh_80 vs_gh_isBelow (as := [.int _, .int _]) (rest := []) rfl rfl (T_gh_isBelow (by omega)) ?_
    rintro _ _ ⟨rfl, rfl⟩
    change Y _ _ _ _ _ [.int _] _ _
    refine Y_if_eqb 7 rfl rfl (tgt := 21) (by decide) (fun h14 => ?_) (fun h14 => ?_)
    · refine Y_iconst 10 rfl rfl (v := nI 0) (by decide) ?_
      refine Y_iret 11 rfl rfl rfl ⟨rfl, ?_⟩
      first | exact pu_t ⟨by assumption, by assumption⟩ | exact pu_f (fun e => absurd e.1 (by assumption)) | exact pu_f (fun e => absurd e.2 (by assumption))
    · refine Y_iconst 8 rfl rfl (v := nI 1) (by decide) ?_
      refine Y_goto 9 rfl (pc2 := 22) (by decide) ?_
      refine Y_iret 11 rfl rfl rfl ⟨rfl, ?_⟩
      first | exact pu_t ⟨by assumption, by assumption⟩ | exact pu_f (fun e => absurd e.1 (by assumption)) | exact pu_f (fun e => absurd e.2 (by assumption))

set_option maxHeartbeats 400000 in
theorem T_mo_isIn {G : Nat × (Nat → Int32)} {m : Mm} {x y z : Int32} : Y G M_mo_isIn (0, 0) 0 (en_ M_mo_isIn [.int (x), .int (y), .int (z)]) [] (LAY, m) (qm_ LAY (pu_ (bI (y ≤ x ∧ x ≤ z)) m)) := by
  change Y _ _ _ _ [some (.int _), some (.int _), some (.int _)] _ _ _
  refine Y_iload_n 0 rfl rfl rfl ?_
  refine Y_iload_n 1 rfl rfl rfl ?_
  refine Y_icmp_lt 2 rfl rfl (tgt := 14) (by decide) (fun h2 => ?_) (fun h2 => ?_)
  · refine Y_iconst 8 rfl rfl (v := nI 0) (by decide) ?_
    refine Y_iret 9 rfl rfl rfl ⟨rfl, ?_⟩
    first | exact pu_t (by refine ⟨?_, ?_⟩ <;> simp only [Int32.lt_iff_toInt_lt, Int32.le_iff_toInt_le] at * <;> omega) | exact pu_f (by intro e; obtain ⟨e1, e2⟩ := e; simp only [Int32.lt_iff_toInt_lt, Int32.le_iff_toInt_le] at *; omega)
  · refine Y_iload_n 3 rfl rfl rfl ?_
    refine Y_iload_n 4 rfl rfl rfl ?_
    refine Y_icmp_gt 5 rfl rfl (tgt := 14) (by decide) (fun h7 => ?_) (fun h7 => ?_)
    · refine Y_iconst 8 rfl rfl (v := nI 0) (by decide) ?_
      refine Y_iret 9 rfl rfl rfl ⟨rfl, ?_⟩
      first | exact pu_t (by refine ⟨?_, ?_⟩ <;> simp only [Int32.lt_iff_toInt_lt, Int32.le_iff_toInt_le] at * <;> omega) | exact pu_f (by intro e; obtain ⟨e1, e2⟩ := e; simp only [Int32.lt_iff_toInt_lt, Int32.le_iff_toInt_le] at *; omega)
    · refine Y_iconst 6 rfl rfl (v := nI 1) (by decide) ?_
      refine Y_goto 7 rfl (pc2 := 15) (by decide) ?_
      refine Y_iret 9 rfl rfl rfl ⟨rfl, ?_⟩
      first | exact pu_t (by refine ⟨?_, ?_⟩ <;> simp only [Int32.lt_iff_toInt_lt, Int32.le_iff_toInt_le] at * <;> omega) | exact pu_f (by intro e; obtain ⟨e1, e2⟩ := e; simp only [Int32.lt_iff_toInt_lt, Int32.le_iff_toInt_le] at *; omega)

set_option maxHeartbeats 400000 in
theorem isin_0 {x : Int32} {h : Nat} (hh : h + 1 < 2 ^ 31) : (nI 0 ≤ x ∧ x ≤ nI h) ↔ iR x (h + 1) := by
  constructor
  · rintro ⟨h1, h2⟩
    have h3 : ¬ x < 0 := by rw [nI_0] at h1; exact Int32.not_lt.mpr h1
    obtain ⟨j, hj, rfl⟩ := nI_of h3
    have := (nI_leI hj (by omega)).mp h2
    exact ⟨j, by omega, rfl⟩
  · rintro ⟨k, hk, rfl⟩
    exact ⟨(nI_leI (by omega) (by omega)).mpr (by omega), (nI_leI (by omega) (by omega)).mpr (by omega)⟩
set_option maxHeartbeats 400000 in
theorem isin_m {x : Int32} {n : Nat} (hn : n < 2 ^ 31) : (nI 0 ≤ x ∧ x ≤ nI n - nI 1) ↔ iR x n := by
  cases n with
  | zero =>
    constructor
    · rintro ⟨h1, h2⟩
      have e : nI 0 - nI 1 = -1 := by decide
      rw [e] at h2
      have := Int32.le_trans h1 h2
      exact absurd this (by decide)
    · rintro ⟨k, hk, _⟩
      omega
  | succ n =>
    have e : nI (n + 1) - nI 1 = nI n := by rw [nI_sub (by omega)]; congr 1
    rw [e]
    exact isin_0 hn
set_option maxHeartbeats 400000 in
theorem T_mo_isIn0 {G : Nat × (Nat → Int32)} {m : Mm} {x : Int32} {h : Nat} (hh : h + 1 < 2 ^ 31) : Y G M_mo_isIn (0, 0) 0 (en_ M_mo_isIn [.int x, .int (nI 0), .int (nI h)]) [] (LAY, m) (qm_ LAY (pu_ (bI (iR x (h + 1))) m)) := by
  rw [← bI_c (isin_0 hh)]
  exact T_mo_isIn
set_option maxHeartbeats 400000 in
theorem T_mo_isInm {G : Nat × (Nat → Int32)} {m : Mm} {x : Int32} {n : Nat} (hn : n < 2 ^ 31) : Y G M_mo_isIn (0, 0) 0 (en_ M_mo_isIn [.int x, .int (nI 0), .int (nI n - nI 1)]) [] (LAY, m) (qm_ LAY (pu_ (bI (iR x n)) m)) := by
  rw [← bI_c (isin_m hn)]
  exact T_mo_isIn

set_option maxHeartbeats 400000 in
theorem T_mo_isCircle {G : Nat × (Nat → Int32)} {m : Mm} {x : Int32} : Y G M_mo_isCircle (0, 0) 0 (en_ M_mo_isCircle [.int (x)]) [] (LAY, m) (qm_ LAY (pu_ (bI (iR x 4)) m)) := by
  change Y _ _ _ _ [some (.int _)] _ _ _
  refine Y_iload_n 0 rfl rfl rfl ?_
  refine Y_iconst 1 rfl rfl (v := nI 0) (by decide) ?_
  refine Y_iconst 2 rfl rfl (v := nI 3) (by decide) ?_
  refine Y_cS 3 rfl rfl ok_mo_isIn lk_mo_62 vs_mo_isIn (as := [.int _, .int _, .int _]) (rest := []) rfl rfl (T_mo_isIn0 (by omega)) ?_
  rintro _ _ ⟨rfl, rfl⟩
  change Y _ _ _ _ _ [.int _] _ _
  refine Y_iret 4 rfl rfl bI_z ⟨rfl, ?_⟩
  exact pu_i rfl

set_option maxHeartbeats 400000 in
theorem T_mo_isSheet {G : Nat × (Nat → Int32)} {m : Mm} {x : Int32} : Y G M_mo_isSheet (0, 0) 0 (en_ M_mo_isSheet [.int (x)]) [] (LAY, m) (qm_ LAY (pu_ (bI (iR x 2)) m)) := by
  change Y _ _ _ _ [some (.int _)] _ _ _
  refine Y_iload_n 0 rfl rfl rfl ?_
  refine Y_iconst 1 rfl rfl (v := nI 0) (by decide) ?_
  refine Y_iconst 2 rfl rfl (v := nI 1) (by decide) ?_
  refine Y_cS 3 rfl rfl ok_mo_isIn lk_mo_62 vs_mo_isIn (as := [.int _, .int _, .int _]) (rest := []) rfl rfl (T_mo_isIn0 (by omega)) ?_
  rintro _ _ ⟨rfl, rfl⟩
  change Y _ _ _ _ _ [.int _] _ _
  refine Y_iret 4 rfl rfl bI_z ⟨rfl, ?_⟩
  exact pu_i rfl

set_option maxHeartbeats 400000 in
theorem T_mo_isFigure {G : Nat × (Nat → Int32)} {m : Mm} {x y : Int32} : Y G M_mo_isFigure (0, 0) 0 (en_ M_mo_isFigure [.int (x), .int (y)]) [] (LAY, m) (qm_ LAY (pu_ (bI (iR x 4 ∧ iR y 6)) m)) := by
  change Y _ _ _ _ [some (.int _), some (.int _)] _ _ _
  refine Y_iload_n 0 rfl rfl rfl ?_
  refine Y_iconst 1 rfl rfl (v := nI 0) (by decide) ?_
  refine Y_iconst 2 rfl rfl (v := nI 3) (by decide) ?_
  refine Y_cS 3 rfl rfl ok_mo_isIn lk_mo_62 vs_mo_isIn (as := [.int _, .int _, .int _]) (rest := []) rfl rfl (T_mo_isIn0 (by omega)) ?_
  rintro _ _ ⟨rfl, rfl⟩
  change Y _ _ _ _ _ [.int _] _ _
  refine Y_if_eqb 4 rfl rfl (tgt := 22) (by decide) (fun h6 => ?_) (fun h6 => ?_)
  · refine Y_iconst 12 rfl rfl (v := nI 0) (by decide) ?_
    refine Y_iret 13 rfl rfl rfl ⟨rfl, ?_⟩
    first | exact pu_t ⟨by assumption, by assumption⟩ | exact pu_f (fun e => absurd e.1 (by assumption)) | exact pu_f (fun e => absurd e.2 (by assumption))
  · refine Y_iload_n 5 rfl rfl rfl ?_
    refine Y_iconst 6 rfl rfl (v := nI 0) (by decide) ?_
    refine Y_iconst 7 rfl rfl (v := nI 5) (by decide) ?_
    refine Y_cS 8 rfl rfl ok_mo_isIn lk_mo_62 vs_mo_isIn (as := [.int _, .int _, .int _]) (rest := []) rfl rfl (T_mo_isIn0 (by omega)) ?_
    rintro _ _ ⟨rfl, rfl⟩
    change Y _ _ _ _ _ [.int _] _ _
    refine Y_if_eqb 9 rfl rfl (tgt := 22) (by decide) (fun h15 => ?_) (fun h15 => ?_)
    · refine Y_iconst 12 rfl rfl (v := nI 0) (by decide) ?_
      refine Y_iret 13 rfl rfl rfl ⟨rfl, ?_⟩
      first | exact pu_t ⟨by assumption, by assumption⟩ | exact pu_f (fun e => absurd e.1 (by assumption)) | exact pu_f (fun e => absurd e.2 (by assumption))
    · refine Y_iconst 10 rfl rfl (v := nI 1) (by decide) ?_
      refine Y_goto 11 rfl (pc2 := 23) (by decide) ?_
      refine Y_iret 13 rfl rfl rfl ⟨rfl, ?_⟩
      first | exact pu_t ⟨by assumption, by assumption⟩ | exact pu_f (fun e => absurd e.1 (by assumption)) | exact pu_f (fun e => absurd e.2 (by assumption))

set_option maxHeartbeats 400000 in
theorem T_mo_orNone {G : Nat × (Nat → Int32)} {m : Mm} {x : Int32} : Y G M_mo_orNone (0, 0) 0 (en_ M_mo_orNone [.int (x)]) [] (LAY, m) (qm_ LAY (pu_ (if x < 0 then NONE_ else x) m)) := by
  change Y _ _ _ _ [some (.int _)] _ _ _
  refine Y_iload_n 0 rfl rfl rfl ?_
  refine Y_if_ge 1 rfl rfl (tgt := 9) (by decide) (fun h1 => ?_) (fun h1 => ?_)
  · refine Y_iload_n 4 rfl rfl rfl ?_
    refine Y_iret 5 rfl rfl rfl ⟨rfl, ?_⟩
    exact pu_i (by unfold NONE_; split <;> first | rfl | (exfalso; simp only [Int32.lt_iff_toInt_lt, Int32.le_iff_toInt_le] at *; omega))
  · refine Y_ldc 2 rfl rfl kc_mo_112 ?_
    refine Y_goto 3 rfl (pc2 := 10) (by decide) ?_
    refine Y_iret 5 rfl rfl rfl ⟨rfl, ?_⟩
    exact pu_i (by unfold NONE_; split <;> first | rfl | (exfalso; simp only [Int32.lt_iff_toInt_lt, Int32.le_iff_toInt_le] at *; omega))

set_option maxHeartbeats 400000 in
theorem T_mo_key {G : Nat × (Nat → Int32)} {m : Mm} {x y : Int32} : Y G M_mo_key (0, 0) 0 (en_ M_mo_key [.int (x), .int (y)]) [] (LAY, m) (qm_ LAY (pu_ (ky x y) m)) := by
  change Y _ _ _ _ [some (.int _), some (.int _), none] _ _ _
  refine Y_iload_n 0 rfl rfl rfl ?_
  refine Y_iload_n 1 rfl rfl rfl ?_
  refine Y_iadd 2 rfl rfl ?_
  refine Y_istore_n 3 rfl rfl (Nat.le_of_ble_eq_true rfl) (ls2 := [some (.int _), some (.int _), some (.int _)]) rfl ?_
  refine Y_iload_n 4 rfl rfl rfl ?_
  refine Y_if_ge 5 rfl rfl (tgt := 14) (by decide) (fun h5 => ?_) (fun h5 => ?_)
  · refine Y_iload_n 10 rfl rfl rfl ?_
    refine Y_bipush 11 rfl rfl (v := nI 9) (by decide) ?_
    refine Y_icmp_le 12 rfl rfl (tgt := 26) (by decide) (fun h17 => ?_) (fun h17 => ?_)
    · refine Y_iload_n 17 rfl rfl rfl ?_
      refine Y_iret 18 rfl rfl rfl ⟨rfl, ?_⟩
      exact pu_i (by unfold ky; (repeat' split) <;> first | rfl | (exfalso; simp only [Int32.lt_iff_toInt_lt, Int32.le_iff_toInt_le] at *; omega))
    · refine Y_iload_n 13 rfl rfl rfl ?_
      refine Y_iconst 14 rfl rfl (v := nI 5) (by decide) ?_
      refine Y_isub 15 rfl rfl ?_
      refine Y_goto 16 rfl (pc2 := 27) (by decide) ?_
      refine Y_iret 18 rfl rfl rfl ⟨rfl, ?_⟩
      exact pu_i (by unfold ky; (repeat' split) <;> first | rfl | (exfalso; simp only [Int32.lt_iff_toInt_lt, Int32.le_iff_toInt_le] at *; omega))
  · refine Y_iload_n 6 rfl rfl rfl ?_
    refine Y_iconst 7 rfl rfl (v := nI 5) (by decide) ?_
    refine Y_iadd 8 rfl rfl ?_
    refine Y_goto 9 rfl (pc2 := 27) (by decide) ?_
    refine Y_iret 18 rfl rfl rfl ⟨rfl, ?_⟩
    exact pu_i (by unfold ky; (repeat' split) <;> first | rfl | (exfalso; simp only [Int32.lt_iff_toInt_lt, Int32.le_iff_toInt_le] at *; omega))

set_option maxHeartbeats 400000 in
theorem sh_2 {l : Nat} (h : l < 4) : nI 2 <<< (nI l &&& 31) = nI (2 ^ (l + 1)) := by
  have : l = 0 ∨ l = 1 ∨ l = 2 ∨ l = 3 := by omega
  rcases this with rfl | rfl | rfl | rfl <;> decide
set_option maxHeartbeats 400000 in
theorem sh_32 {l : Nat} (h : l < 4) : nI 32 <<< (nI l &&& 31) = nI (32 * 2 ^ l) := by
  have : l = 0 ∨ l = 1 ∨ l = 2 ∨ l = 3 := by omega
  rcases this with rfl | rfl | rfl | rfl <;> decide
set_option maxHeartbeats 400000 in
theorem sz_16 {l : Nat} (h : l < 4) : 2 ^ (l + 1) ≤ 16 := by
  have : l = 0 ∨ l = 1 ∨ l = 2 ∨ l = 3 := by omega
  rcases this with rfl | rfl | rfl | rfl <;> decide
set_option maxHeartbeats 400000 in
theorem sz_2 {l : Nat} : 2 ≤ 2 ^ (l + 1) := Nat.pow_le_pow_right (n := 2) (by omega) (by omega : 1 ≤ l + 1)
def ch (g : Int32) : Int32 := if g = nI 103 then nI 0 else if g = nI 71 then nI 1 else if g = nI 72 then nI 2 else if g = nI 76 then nI 3 else -1

set_option maxHeartbeats 400000 in
theorem T_mo_stepsOf {G : Nat × (Nat → Int32)} {m : Mm} {l : Nat} (h : l < 4) : Y G M_mo_stepsOf (0, 0) 0 (en_ M_mo_stepsOf [.int (nI l)]) [] (LAY, m) (qm_ LAY (pu_ (nI (2 ^ (l + 1))) m)) := by
  change Y _ _ _ _ [some (.int _)] _ _ _
  refine Y_iconst 0 rfl rfl (v := nI 2) (by decide) ?_
  refine Y_iload_n 1 rfl rfl rfl ?_
  refine Y_ishl 2 rfl rfl ?_
  refine Y_iret 3 rfl rfl rfl ⟨rfl, ?_⟩
  exact pu_i (sh_2 h)

set_option maxHeartbeats 400000 in
theorem T_mo_placeOf {G : Nat × (Nat → Int32)} {m : Mm} {l f h s : Nat} : Y G M_mo_placeOf (0, 0) 0 (en_ M_mo_placeOf [.int (nI l), .int (nI f), .int (nI h), .int (nI s)]) [] (LAY, m) (qm_ LAY (pu_ (nI (16 * (2 * (6 * l + f) + h) + s)) m)) := by
  change Y _ _ _ _ [some (.int _), some (.int _), some (.int _), some (.int _)] _ _ _
  refine Y_bipush 0 rfl rfl (v := nI 16) (by decide) ?_
  refine Y_iconst 1 rfl rfl (v := nI 2) (by decide) ?_
  refine Y_bipush 2 rfl rfl (v := nI 6) (by decide) ?_
  refine Y_iload_n 3 rfl rfl rfl ?_
  refine Y_imul 4 rfl rfl ?_
  refine Y_top (nI_mul _ _) ?_
  refine Y_iload_n 5 rfl rfl rfl ?_
  refine Y_iadd 6 rfl rfl ?_
  refine Y_top (nI_add _ _) ?_
  refine Y_imul 7 rfl rfl ?_
  refine Y_top (nI_mul _ _) ?_
  refine Y_iload_n 8 rfl rfl rfl ?_
  refine Y_iadd 9 rfl rfl ?_
  refine Y_top (nI_add _ _) ?_
  refine Y_imul 10 rfl rfl ?_
  refine Y_top (nI_mul _ _) ?_
  refine Y_iload_n 11 rfl rfl rfl ?_
  refine Y_iadd 12 rfl rfl ?_
  refine Y_top (nI_add _ _) ?_
  refine Y_iret 13 rfl rfl rfl ⟨rfl, ?_⟩
  exact pu_i rfl

set_option maxHeartbeats 400000 in
theorem T_mo_gongOf {G : Nat × (Nat → Int32)} {m : Mm} {x : Int32} : Y G M_mo_gongOf (0, 0) 0 (en_ M_mo_gongOf [.int (x)]) [] (LAY, m) (qm_ LAY (pu_ (ch x) m)) := by
  change Y _ _ _ _ [some (.int _)] _ _ _
  refine Y_iload_n 0 rfl rfl rfl ?_
  refine Y_bipush 1 rfl rfl (v := nI 103) (by decide) ?_
  refine Y_icmp_ne 2 rfl rfl (tgt := 10) (by decide) (fun h3 => ?_) (fun h3 => ?_)
  · refine Y_iload_n 5 rfl rfl rfl ?_
    refine Y_bipush 6 rfl rfl (v := nI 71) (by decide) ?_
    refine Y_icmp_ne 7 rfl rfl (tgt := 20) (by decide) (fun h13 => ?_) (fun h13 => ?_)
    · refine Y_iload_n 10 rfl rfl rfl ?_
      refine Y_bipush 11 rfl rfl (v := nI 72) (by decide) ?_
      refine Y_icmp_ne 12 rfl rfl (tgt := 30) (by decide) (fun h23 => ?_) (fun h23 => ?_)
      · refine Y_iload_n 15 rfl rfl rfl ?_
        refine Y_bipush 16 rfl rfl (v := nI 76) (by decide) ?_
        refine Y_icmp_ne 17 rfl rfl (tgt := 40) (by decide) (fun h33 => ?_) (fun h33 => ?_)
        · refine Y_iconst 20 rfl rfl (v := -1) (by decide) ?_
          refine Y_iret 21 rfl rfl rfl ⟨rfl, ?_⟩
          exact pu_i (by unfold ch; simp_all)
        · refine Y_iconst 18 rfl rfl (v := nI 3) (by decide) ?_
          refine Y_goto 19 rfl (pc2 := 41) (by decide) ?_
          refine Y_iret 21 rfl rfl rfl ⟨rfl, ?_⟩
          exact pu_i (by unfold ch; simp_all)
      · refine Y_iconst 13 rfl rfl (v := nI 2) (by decide) ?_
        refine Y_goto 14 rfl (pc2 := 41) (by decide) ?_
        refine Y_iret 21 rfl rfl rfl ⟨rfl, ?_⟩
        exact pu_i (by unfold ch; simp_all)
    · refine Y_iconst 8 rfl rfl (v := nI 1) (by decide) ?_
      refine Y_goto 9 rfl (pc2 := 41) (by decide) ?_
      refine Y_iret 21 rfl rfl rfl ⟨rfl, ?_⟩
      exact pu_i (by unfold ch; simp_all)
  · refine Y_iconst 3 rfl rfl (v := nI 0) (by decide) ?_
    refine Y_goto 4 rfl (pc2 := 41) (by decide) ?_
    refine Y_iret 21 rfl rfl rfl ⟨rfl, ?_⟩
    exact pu_i (by unfold ch; simp_all)
