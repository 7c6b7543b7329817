/-! the reference: copy, lay, the way through a piece -/
set_option maxHeartbeats 400000 in
theorem lc_gt {a b n : Nat} (ha : a < 2 ^ 31) (hb : b < 2 ^ 31) (hn : n < 2 ^ 31) : 0 < lg_cmp ((nI a).toInt64 + (nI b).toInt64) (nI n).toInt64 ↔ n < a + b := by
  have e : ((nI a).toInt64 + (nI b).toInt64).toInt = (a : Int) + b := by
    rw [Int64.toInt_add, Int32.toInt_toInt64, Int32.toInt_toInt64, nI_toInt ha, nI_toInt hb, Int.bmod_eq_of_le] <;> omega
  have e2 : (nI n).toInt64.toInt = (n : Int) := by rw [Int32.toInt_toInt64, nI_toInt hn]
  unfold lg_cmp
  by_cases h : (nI a).toInt64 + (nI b).toInt64 > (nI n).toInt64
  · rw [if_pos h]
    have := Int64.lt_iff_toInt_lt.mp h
    rw [e, e2] at this
    exact ⟨fun _ => by omega, fun _ => by decide⟩
  · rw [if_neg h]
    have h2 : ¬ ((n : Int) < (a : Int) + b) := fun q => h (Int64.lt_iff_toInt_lt.mpr (by rw [e, e2]; exact q))
    refine ⟨fun q => ?_, fun q => by omega⟩
    split at q
    · exact absurd q (by decide)
    · exact absurd q (by decide)

set_option maxHeartbeats 400000 in
theorem L_copy1 {G : Nat × (Nat → Int32)} {m : Mm} {S : Mm} (h : RM m S) (w : WF S) {x y a d b : Nat} (hx : x < 2) (hy : y < 2) (hab : a + b ≤ 16) (hdb : d + b ≤ 16) (H2 : Y G M_mo_copy (0, 0) 130 [some (.ref 153), some (.int (nI x)), some (.int (nI a)), some (.int (nI y)), some (.int (nI d)), some (.int (nI b)), some (.int (nI 0))] [] (LAY, ur_ m 170 (wri (m 170) 0 b (fun j => S 166 (16 * x + a + j)))) (qm_ LAY (pm_ (nI b) m (ur_ S 166 (cprow (S 166) (16 * x + a) (16 * y + d) b))))) : ∀ i, i ≤ b → Y G M_mo_copy (0, 0) 93 [some (.ref 153), some (.int (nI x)), some (.int (nI a)), some (.int (nI y)), some (.int (nI d)), some (.int (nI b)), some (.int (nI i))] [] (LAY, ur_ m 170 (wri (m 170) 0 i (fun j => S 166 (16 * x + a + j)))) (qm_ LAY (pm_ (nI b) m (ur_ S 166 (cprow (S 166) (16 * x + a) (16 * y + d) b)))) := by
  refine ind_ (fun i hi ih => ?_)
  refine Y_iload 54 rfl (pc2 := 95) rfl rfl ?_
  refine Y_iload 55 rfl (pc2 := 97) rfl rfl ?_
  refine Y_icmp_gen 56 rfl (pc2 := 100) rfl (tgt := 127) (by decide) (by omega) (by omega) (fun h97 => ?_) (fun h97 => ?_)
  · refine Y_iconst 73 rfl (pc2 := 128) rfl (v := nI 0) (by decide) ?_
    refine Y_istore 74 rfl (pc2 := 130) rfl (Nat.le_of_ble_eq_true rfl) (ls2 := [some (.ref _), some (.int _), some (.int _), some (.int _), some (.int _), some (.int _), some (.int _)]) rfl ?_
    rw [show i = b by omega]
    exact H2
  · refine Y_aload_n 57 rfl (pc2 := 101) rfl rfl ?_
    refine Y_getR 58 rfl (pc2 := 104) rfl fl_mo_59 ly_mo (by decide) rfl rfl (by omega) ?_
    refine Y_iload 59 rfl (pc2 := 106) rfl rfl ?_
    refine Y_aload_n 60 rfl (pc2 := 107) rfl rfl ?_
    refine Y_getR 61 rfl (pc2 := 110) rfl fl_mo_47 ly_mo (by decide) rfl rfl (by omega) ?_
    refine Y_bipush 62 rfl (pc2 := 112) rfl (v := nI 16) (by decide) ?_
    refine Y_iload_n 63 rfl (pc2 := 113) rfl rfl ?_
    refine Y_imul 64 rfl (pc2 := 114) rfl ?_
    refine Y_top (nI_mul _ _) ?_
    refine Y_iload_n 65 rfl (pc2 := 115) rfl rfl ?_
    refine Y_iadd 66 rfl (pc2 := 116) rfl ?_
    refine Y_top (nI_add _ _) ?_
    refine Y_iload 67 rfl (pc2 := 118) rfl rfl ?_
    refine Y_iadd 68 rfl (pc2 := 119) rfl ?_
    refine Y_top (nI_add _ _) ?_
    refine Y_iald 69 rfl (pc2 := 120) rfl ly_mo_numbers rfl (by omega) (by decide) ?_
    refine Y_top ((congrFun (ur_ne (by decide)) _).trans (h.e (by decide) (by decide))) ?_
    refine Y_iast 70 rfl (pc2 := 121) rfl ly_mo_carried rfl (by omega) (by decide) rfl ?_
    refine Y_iinc 71 rfl (pc2 := 124) rfl rfl (nI_inc _ 1) (ls2 := [some (.ref _), some (.int _), some (.int _), some (.int _), some (.int _), some (.int _), some (.int _)]) rfl ?_
    refine Y_goto 72 rfl (pc2 := 93) (by decide) ?_
    have hi2 := ih (i + 1) (by omega) (by omega)
    rw [← wri_s, Nat.zero_add] at hi2
    exact hi2

set_option maxHeartbeats 400000 in
theorem L_copy2 {G : Nat × (Nat → Int32)} {m m1 S : Mm} (h : RM m1 S) {x y a d b : Nat} (hx : x < 2) (hy : y < 2) (hab : a + b ≤ 16) (hdb : d + b ≤ 16) (hfr : ∀ a, a < 153 → m1 a = m a) (hca : ∀ j, j < b → m1 170 j = S 166 (16 * x + a + j)) : ∀ i, i ≤ b → Y G M_mo_copy (0, 0) 130 [some (.ref 153), some (.int (nI x)), some (.int (nI a)), some (.int (nI y)), some (.int (nI d)), some (.int (nI b)), some (.int (nI i))] [] (LAY, ur_ m1 166 (wri (m1 166) (16 * y + d) i (fun j => S 166 (16 * x + a + j)))) (qm_ LAY (pm_ (nI b) m (ur_ S 166 (cprow (S 166) (16 * x + a) (16 * y + d) b)))) := by
  refine ind_ (fun i hi ih => ?_)
  refine Y_iload 75 rfl (pc2 := 132) rfl rfl ?_
  refine Y_iload 76 rfl (pc2 := 134) rfl rfl ?_
  refine Y_icmp_gen 77 rfl (pc2 := 137) rfl (tgt := 165) (by decide) (by omega) (by omega) (fun h134 => ?_) (fun h134 => ?_)
  · refine Y_iload 94 rfl (pc2 := 167) rfl rfl ?_
    refine Y_iret 95 rfl rfl rfl ⟨rfl, ?_⟩
    dsimp only
    refine ⟨rfl, ?_, fun q hq => by rw [ur_ne (by omega)]; exact hfr q hq⟩
    have e : m1 166 = S 166 := h.1 166 (by decide) (by decide)
    rw [e, show i = b by omega]
    exact RM_ur h (by decide)
  · refine Y_aload_n 78 rfl (pc2 := 138) rfl rfl ?_
    refine Y_getR 79 rfl (pc2 := 141) rfl fl_mo_47 ly_mo (by decide) rfl rfl (by omega) ?_
    refine Y_bipush 80 rfl (pc2 := 143) rfl (v := nI 16) (by decide) ?_
    refine Y_iload_n 81 rfl (pc2 := 144) rfl rfl ?_
    refine Y_imul 82 rfl (pc2 := 145) rfl ?_
    refine Y_top (nI_mul _ _) ?_
    refine Y_iload 83 rfl (pc2 := 147) rfl rfl ?_
    refine Y_iadd 84 rfl (pc2 := 148) rfl ?_
    refine Y_top (nI_add _ _) ?_
    refine Y_iload 85 rfl (pc2 := 150) rfl rfl ?_
    refine Y_iadd 86 rfl (pc2 := 151) rfl ?_
    refine Y_top (nI_add _ _) ?_
    refine Y_aload_n 87 rfl (pc2 := 152) rfl rfl ?_
    refine Y_getR 88 rfl (pc2 := 155) rfl fl_mo_59 ly_mo (by decide) rfl rfl (by omega) ?_
    refine Y_iload 89 rfl (pc2 := 157) rfl rfl ?_
    refine Y_iald 90 rfl (pc2 := 158) rfl ly_mo_carried rfl (by omega) (by decide) ?_
    refine Y_top ((congrFun (ur_ne (by decide)) _).trans (hca i (by omega))) ?_
    refine Y_iast 91 rfl (pc2 := 159) rfl ly_mo_numbers rfl (by omega) (by decide) rfl ?_
    refine Y_iinc 92 rfl (pc2 := 162) rfl rfl (nI_inc _ 1) (ls2 := [some (.ref _), some (.int _), some (.int _), some (.int _), some (.int _), some (.int _), some (.int _)]) rfl ?_
    refine Y_goto 93 rfl (pc2 := 130) (by decide) ?_
    exact Y_mem (wri_s (f := fun j => S 166 (16 * x + a + j))) (ih (i + 1) (by omega) (by omega))

set_option maxHeartbeats 400000 in
theorem hol_n {N a b : Nat} (ha : a < 2 ^ 31) (hb : b < 2 ^ 31) (hN : N ≤ 16) : hol N (nI a) (nI b) ↔ a + b ≤ N := by
  constructor
  · rintro ⟨a2, b2, e1, e2, h⟩
    have h1 := (nI_eq ha (by omega)).mp e1
    have h2 := (nI_eq hb (by omega)).mp e2
    omega
  · intro h
    exact ⟨a, b, rfl, rfl, h⟩

set_option maxHeartbeats 400000 in
theorem T_mo_copy {G : Nat × (Nat → Int32)} {m : Mm} {S : Mm} (h : RM m S) (w : WF S) {x0 p y0 q n : Int32} : Y G M_mo_copy (0, 0) 0 (en_ M_mo_copy [.ref (153), .int (x0), .int (p), .int (y0), .int (q), .int (n)]) [] (LAY, m) (qm_ LAY (pm_ (sp_copy S x0 p y0 q n) m (st_copy S x0 p y0 q n))) := by
  change Y _ _ _ _ [some (.ref _), some (.int _), some (.int _), some (.int _), some (.int _), some (.int _), none] _ _ _
  refine Y_iload_n 0 rfl (pc2 := 1) rfl rfl ?_
  refine Y_cS 1 rfl (pc2 := 4) rfl ok_mo_isSheet lk_mo_134 vs_mo_isSheet (as := [.int _]) (rest := []) rfl rfl T_mo_isSheet ?_
  rintro _ _ ⟨rfl, rfl⟩
  change Y _ _ _ _ _ [.int _] _ _
  refine Y_if_eqb 2 rfl (pc2 := 7) rfl (tgt := 14) (by decide) (fun h4 => ?_) (fun h4 => ?_)
  · refine Y_ldc 6 rfl (pc2 := 16) rfl kc_mo_79 ?_
    refine Y_iret 7 rfl rfl rfl ⟨rfl, ?_⟩
    dsimp only
    first | exact pm_bad h (by unfold sp_copy; rw [cI_f (fun e => h4 e.1)]; rfl) (by unfold st_copy; rw [cI_f (fun e => h4 e.1.1)]) | exact pm_bad h (by unfold sp_copy; rw [cI_f (fun e => h11 e.2)]; rfl) (by unfold st_copy; rw [cI_f (fun e => h11 e.1.2)])
  · obtain ⟨x, hx, rfl⟩ := h4
    have hnx := pl_neg w hx
    refine Y_iload_n 3 rfl (pc2 := 8) rfl rfl ?_
    refine Y_cS 4 rfl (pc2 := 11) rfl ok_mo_isSheet lk_mo_134 vs_mo_isSheet (as := [.int _]) (rest := []) rfl rfl T_mo_isSheet ?_
    rintro _ _ ⟨rfl, rfl⟩
    change Y _ _ _ _ _ [.int _] _ _
    refine Y_if_neb 5 rfl (pc2 := 14) rfl (tgt := 17) (by decide) (fun h11 => ?_) (fun h11 => ?_)
    · obtain ⟨y, hy, rfl⟩ := h11
      have hny := pl_neg w hy
      refine Y_aload_n 8 rfl (pc2 := 18) rfl rfl ?_
      refine Y_getR 9 rfl (pc2 := 21) rfl fl_mo_44 ly_mo (by decide) rfl rfl (by omega) ?_
      refine Y_iload_n 10 rfl (pc2 := 22) rfl rfl ?_
      refine Y_iald 11 rfl (pc2 := 23) rfl ly_mo_places rfl (by omega) (by decide) ?_
      refine Y_top (h.e (by decide) (by decide)) ?_
      refine Y_if_lt 12 rfl (pc2 := 26) rfl (tgt := 35) (by decide) (fun h23 => ?_) (fun h23 => ?_)
      · refine Y_ldc 18 rfl (pc2 := 37) rfl kc_mo_137 ?_
        refine Y_iret 19 rfl rfl rfl ⟨rfl, ?_⟩
        dsimp only
        first
          | exact (by
              have hz := hnx.mp h23
              exact pm_bad h (by unfold sp_copy; rw [cI_t ⟨⟨x, hx, rfl⟩, ⟨y, hy, rfl⟩⟩, cI_f (fun e => e.1 (by rw [nv_nI (by omega)]; exact hz))]; rfl) (by unfold st_copy; rw [cI_f (fun e => e.2.1.1 (by rw [nv_nI (by omega)]; exact hz))]))
          | exact (by
              have hz := hny.mp (Int32.not_le.mp h32)
              exact pm_bad h (by unfold sp_copy; rw [cI_t ⟨⟨x, hx, rfl⟩, ⟨y, hy, rfl⟩⟩, cI_f (fun e => e.2 (by rw [nv_nI (by omega)]; exact hz))]; rfl) (by unfold st_copy; rw [cI_f (fun e => e.2.1.2 (by rw [nv_nI (by omega)]; exact hz))]))
      · refine Y_aload_n 13 rfl (pc2 := 27) rfl rfl ?_
        refine Y_getR 14 rfl (pc2 := 30) rfl fl_mo_44 ly_mo (by decide) rfl rfl (by omega) ?_
        refine Y_iload_n 15 rfl (pc2 := 31) rfl rfl ?_
        refine Y_iald 16 rfl (pc2 := 32) rfl ly_mo_places rfl (by omega) (by decide) ?_
        refine Y_top (h.e (by decide) (by decide)) ?_
        refine Y_if_ge 17 rfl (pc2 := 35) rfl (tgt := 38) (by decide) (fun h32 => ?_) (fun h32 => ?_)
        · have h28 : ¬ S 165 x = -1 := fun e => h23 (hnx.mpr e)
          have h40 : ¬ S 165 y = -1 := fun e => Int32.not_lt.mpr h32 (hny.mpr e)
          have hpx := (plc_is w hx h28).2
          have hpy := (plc_is w hy h40).2
          refine Y_iload_n 20 rfl (pc2 := 39) rfl rfl ?_
          refine Y_if_lt 21 rfl (pc2 := 42) rfl (tgt := 87) (by decide) (fun h39 => ?_) (fun h39 => ?_)
          · refine Y_ldc 50 rfl (pc2 := 89) rfl kc_mo_138 ?_
            refine Y_iret 51 rfl rfl rfl ⟨rfl, ?_⟩
            dsimp only
            first | exact pm_bad h (by unfold sp_copy; rw [cI_t ⟨⟨x, hx, rfl⟩, ⟨y, hy, rfl⟩⟩, nv_nI (k := x) (by omega), nv_nI (k := y) (by omega), cI_t ⟨h28, h40⟩, cI_f (fun e => (hol_f hpx e.1).1 h39)]; rfl) (by unfold st_copy; rw [cI_f (fun e => (hol_f hpx (by have z := e.2.2.1; rw [nv_nI (by omega)] at z; exact z)).1 h39)]) | exact pm_bad h (by unfold sp_copy; rw [cI_t ⟨⟨x, hx, rfl⟩, ⟨y, hy, rfl⟩⟩, nv_nI (k := x) (by omega), nv_nI (k := y) (by omega), cI_t ⟨h28, h40⟩, cI_f (fun e => (hol_f hpy e.2).1 h44)]; rfl) (by unfold st_copy; rw [cI_f (fun e => (hol_f hpy (by have z := e.2.2.2; rw [nv_nI (by omega)] at z; exact z)).1 h44)]) | exact pm_bad h (by unfold sp_copy; rw [cI_t ⟨⟨x, hx, rfl⟩, ⟨y, hy, rfl⟩⟩, nv_nI (k := x) (by omega), nv_nI (k := y) (by omega), cI_t ⟨h28, h40⟩, cI_f (fun e => (hol_f hpx e.1).2.1 h49)]; rfl) (by unfold st_copy; rw [cI_f (fun e => (hol_f hpx (by have z := e.2.2.1; rw [nv_nI (by omega)] at z; exact z)).2.1 h49)]) | exact pm_bad h (by unfold sp_copy; rw [cI_t ⟨⟨x, hx, rfl⟩, ⟨y, hy, rfl⟩⟩, nv_nI (k := x) (by omega), nv_nI (k := y) (by omega), cI_t ⟨h28, h40⟩, cI_f (fun e => absurd ((hol_n ha hb hpx).mp e.1) (by have z := (lc_gt ha hb (by omega)).mp h66; omega))]; rfl) (by unfold st_copy; rw [cI_f (fun e => absurd ((hol_n ha hb hpx).mp (by have z := e.2.2.1; rw [nv_nI (by omega)] at z; exact z)) (by have z := (lc_gt ha hb (by omega)).mp h66; omega))]) | exact pm_bad h (by unfold sp_copy; rw [cI_t ⟨⟨x, hx, rfl⟩, ⟨y, hy, rfl⟩⟩, nv_nI (k := x) (by omega), nv_nI (k := y) (by omega), cI_t ⟨h28, h40⟩, cI_f (fun e => absurd ((hol_n hd hb hpy).mp e.2) (by have z := (lc_gt hd hb (by omega)).mp (Int32.not_le.mp h84); omega))]; rfl) (by unfold st_copy; rw [cI_f (fun e => absurd ((hol_n hd hb hpy).mp (by have z := e.2.2.2; rw [nv_nI (by omega)] at z; exact z)) (by have z := (lc_gt hd hb (by omega)).mp (Int32.not_le.mp h84); omega))])
          · refine Y_iload 22 rfl (pc2 := 44) rfl rfl ?_
            refine Y_if_lt 23 rfl (pc2 := 47) rfl (tgt := 87) (by decide) (fun h44 => ?_) (fun h44 => ?_)
            · refine Y_ldc 50 rfl (pc2 := 89) rfl kc_mo_138 ?_
              refine Y_iret 51 rfl rfl rfl ⟨rfl, ?_⟩
              dsimp only
              first | exact pm_bad h (by unfold sp_copy; rw [cI_t ⟨⟨x, hx, rfl⟩, ⟨y, hy, rfl⟩⟩, nv_nI (k := x) (by omega), nv_nI (k := y) (by omega), cI_t ⟨h28, h40⟩, cI_f (fun e => (hol_f hpx e.1).1 h39)]; rfl) (by unfold st_copy; rw [cI_f (fun e => (hol_f hpx (by have z := e.2.2.1; rw [nv_nI (by omega)] at z; exact z)).1 h39)]) | exact pm_bad h (by unfold sp_copy; rw [cI_t ⟨⟨x, hx, rfl⟩, ⟨y, hy, rfl⟩⟩, nv_nI (k := x) (by omega), nv_nI (k := y) (by omega), cI_t ⟨h28, h40⟩, cI_f (fun e => (hol_f hpy e.2).1 h44)]; rfl) (by unfold st_copy; rw [cI_f (fun e => (hol_f hpy (by have z := e.2.2.2; rw [nv_nI (by omega)] at z; exact z)).1 h44)]) | exact pm_bad h (by unfold sp_copy; rw [cI_t ⟨⟨x, hx, rfl⟩, ⟨y, hy, rfl⟩⟩, nv_nI (k := x) (by omega), nv_nI (k := y) (by omega), cI_t ⟨h28, h40⟩, cI_f (fun e => (hol_f hpx e.1).2.1 h49)]; rfl) (by unfold st_copy; rw [cI_f (fun e => (hol_f hpx (by have z := e.2.2.1; rw [nv_nI (by omega)] at z; exact z)).2.1 h49)]) | exact pm_bad h (by unfold sp_copy; rw [cI_t ⟨⟨x, hx, rfl⟩, ⟨y, hy, rfl⟩⟩, nv_nI (k := x) (by omega), nv_nI (k := y) (by omega), cI_t ⟨h28, h40⟩, cI_f (fun e => absurd ((hol_n ha hb hpx).mp e.1) (by have z := (lc_gt ha hb (by omega)).mp h66; omega))]; rfl) (by unfold st_copy; rw [cI_f (fun e => absurd ((hol_n ha hb hpx).mp (by have z := e.2.2.1; rw [nv_nI (by omega)] at z; exact z)) (by have z := (lc_gt ha hb (by omega)).mp h66; omega))]) | exact pm_bad h (by unfold sp_copy; rw [cI_t ⟨⟨x, hx, rfl⟩, ⟨y, hy, rfl⟩⟩, nv_nI (k := x) (by omega), nv_nI (k := y) (by omega), cI_t ⟨h28, h40⟩, cI_f (fun e => absurd ((hol_n hd hb hpy).mp e.2) (by have z := (lc_gt hd hb (by omega)).mp (Int32.not_le.mp h84); omega))]; rfl) (by unfold st_copy; rw [cI_f (fun e => absurd ((hol_n hd hb hpy).mp (by have z := e.2.2.2; rw [nv_nI (by omega)] at z; exact z)) (by have z := (lc_gt hd hb (by omega)).mp (Int32.not_le.mp h84); omega))])
            · refine Y_iload 24 rfl (pc2 := 49) rfl rfl ?_
              refine Y_if_lt 25 rfl (pc2 := 52) rfl (tgt := 87) (by decide) (fun h49 => ?_) (fun h49 => ?_)
              · refine Y_ldc 50 rfl (pc2 := 89) rfl kc_mo_138 ?_
                refine Y_iret 51 rfl rfl rfl ⟨rfl, ?_⟩
                dsimp only
                first | exact pm_bad h (by unfold sp_copy; rw [cI_t ⟨⟨x, hx, rfl⟩, ⟨y, hy, rfl⟩⟩, nv_nI (k := x) (by omega), nv_nI (k := y) (by omega), cI_t ⟨h28, h40⟩, cI_f (fun e => (hol_f hpx e.1).1 h39)]; rfl) (by unfold st_copy; rw [cI_f (fun e => (hol_f hpx (by have z := e.2.2.1; rw [nv_nI (by omega)] at z; exact z)).1 h39)]) | exact pm_bad h (by unfold sp_copy; rw [cI_t ⟨⟨x, hx, rfl⟩, ⟨y, hy, rfl⟩⟩, nv_nI (k := x) (by omega), nv_nI (k := y) (by omega), cI_t ⟨h28, h40⟩, cI_f (fun e => (hol_f hpy e.2).1 h44)]; rfl) (by unfold st_copy; rw [cI_f (fun e => (hol_f hpy (by have z := e.2.2.2; rw [nv_nI (by omega)] at z; exact z)).1 h44)]) | exact pm_bad h (by unfold sp_copy; rw [cI_t ⟨⟨x, hx, rfl⟩, ⟨y, hy, rfl⟩⟩, nv_nI (k := x) (by omega), nv_nI (k := y) (by omega), cI_t ⟨h28, h40⟩, cI_f (fun e => (hol_f hpx e.1).2.1 h49)]; rfl) (by unfold st_copy; rw [cI_f (fun e => (hol_f hpx (by have z := e.2.2.1; rw [nv_nI (by omega)] at z; exact z)).2.1 h49)]) | exact pm_bad h (by unfold sp_copy; rw [cI_t ⟨⟨x, hx, rfl⟩, ⟨y, hy, rfl⟩⟩, nv_nI (k := x) (by omega), nv_nI (k := y) (by omega), cI_t ⟨h28, h40⟩, cI_f (fun e => absurd ((hol_n ha hb hpx).mp e.1) (by have z := (lc_gt ha hb (by omega)).mp h66; omega))]; rfl) (by unfold st_copy; rw [cI_f (fun e => absurd ((hol_n ha hb hpx).mp (by have z := e.2.2.1; rw [nv_nI (by omega)] at z; exact z)) (by have z := (lc_gt ha hb (by omega)).mp h66; omega))]) | exact pm_bad h (by unfold sp_copy; rw [cI_t ⟨⟨x, hx, rfl⟩, ⟨y, hy, rfl⟩⟩, nv_nI (k := x) (by omega), nv_nI (k := y) (by omega), cI_t ⟨h28, h40⟩, cI_f (fun e => absurd ((hol_n hd hb hpy).mp e.2) (by have z := (lc_gt hd hb (by omega)).mp (Int32.not_le.mp h84); omega))]; rfl) (by unfold st_copy; rw [cI_f (fun e => absurd ((hol_n hd hb hpy).mp (by have z := e.2.2.2; rw [nv_nI (by omega)] at z; exact z)) (by have z := (lc_gt hd hb (by omega)).mp (Int32.not_le.mp h84); omega))])
              · obtain ⟨a, ha, rfl⟩ := nI_of h39
                obtain ⟨d, hd, rfl⟩ := nI_of h44
                obtain ⟨b, hb, rfl⟩ := nI_of h49
                refine Y_iload_n 26 rfl (pc2 := 53) rfl rfl ?_
                refine Y_i2l 27 rfl (pc2 := 54) rfl rfl ?_
                refine Y_iload 28 rfl (pc2 := 56) rfl rfl ?_
                refine Y_i2l 29 rfl (pc2 := 57) rfl rfl ?_
                refine Y_ladd 30 rfl (pc2 := 58) rfl ?_
                refine Y_aload_n 31 rfl (pc2 := 59) rfl rfl ?_
                refine Y_getR 32 rfl (pc2 := 62) rfl fl_mo_44 ly_mo (by decide) rfl rfl (by omega) ?_
                refine Y_iload_n 33 rfl (pc2 := 63) rfl rfl ?_
                refine Y_iald 34 rfl (pc2 := 64) rfl ly_mo_places rfl (by omega) (by decide) ?_
                refine Y_top ((h.e (by decide) (by decide)).trans (plc_is w hx h28).1) ?_
                refine Y_i2l 35 rfl (pc2 := 65) rfl rfl ?_
                refine Y_lcmp 36 rfl (pc2 := 66) rfl ?_
                refine Y_if_gt 37 rfl (pc2 := 69) rfl (tgt := 87) (by decide) (fun h66 => ?_) (fun h66 => ?_)
                · refine Y_ldc 50 rfl (pc2 := 89) rfl kc_mo_138 ?_
                  refine Y_iret 51 rfl rfl rfl ⟨rfl, ?_⟩
                  dsimp only
                  first | exact pm_bad h (by unfold sp_copy; rw [cI_t ⟨⟨x, hx, rfl⟩, ⟨y, hy, rfl⟩⟩, nv_nI (k := x) (by omega), nv_nI (k := y) (by omega), cI_t ⟨h28, h40⟩, cI_f (fun e => (hol_f hpx e.1).1 h39)]; rfl) (by unfold st_copy; rw [cI_f (fun e => (hol_f hpx (by have z := e.2.2.1; rw [nv_nI (by omega)] at z; exact z)).1 h39)]) | exact pm_bad h (by unfold sp_copy; rw [cI_t ⟨⟨x, hx, rfl⟩, ⟨y, hy, rfl⟩⟩, nv_nI (k := x) (by omega), nv_nI (k := y) (by omega), cI_t ⟨h28, h40⟩, cI_f (fun e => (hol_f hpy e.2).1 h44)]; rfl) (by unfold st_copy; rw [cI_f (fun e => (hol_f hpy (by have z := e.2.2.2; rw [nv_nI (by omega)] at z; exact z)).1 h44)]) | exact pm_bad h (by unfold sp_copy; rw [cI_t ⟨⟨x, hx, rfl⟩, ⟨y, hy, rfl⟩⟩, nv_nI (k := x) (by omega), nv_nI (k := y) (by omega), cI_t ⟨h28, h40⟩, cI_f (fun e => (hol_f hpx e.1).2.1 h49)]; rfl) (by unfold st_copy; rw [cI_f (fun e => (hol_f hpx (by have z := e.2.2.1; rw [nv_nI (by omega)] at z; exact z)).2.1 h49)]) | exact pm_bad h (by unfold sp_copy; rw [cI_t ⟨⟨x, hx, rfl⟩, ⟨y, hy, rfl⟩⟩, nv_nI (k := x) (by omega), nv_nI (k := y) (by omega), cI_t ⟨h28, h40⟩, cI_f (fun e => absurd ((hol_n ha hb hpx).mp e.1) (by have z := (lc_gt ha hb (by omega)).mp h66; omega))]; rfl) (by unfold st_copy; rw [cI_f (fun e => absurd ((hol_n ha hb hpx).mp (by have z := e.2.2.1; rw [nv_nI (by omega)] at z; exact z)) (by have z := (lc_gt ha hb (by omega)).mp h66; omega))]) | exact pm_bad h (by unfold sp_copy; rw [cI_t ⟨⟨x, hx, rfl⟩, ⟨y, hy, rfl⟩⟩, nv_nI (k := x) (by omega), nv_nI (k := y) (by omega), cI_t ⟨h28, h40⟩, cI_f (fun e => absurd ((hol_n hd hb hpy).mp e.2) (by have z := (lc_gt hd hb (by omega)).mp (Int32.not_le.mp h84); omega))]; rfl) (by unfold st_copy; rw [cI_f (fun e => absurd ((hol_n hd hb hpy).mp (by have z := e.2.2.2; rw [nv_nI (by omega)] at z; exact z)) (by have z := (lc_gt hd hb (by omega)).mp (Int32.not_le.mp h84); omega))])
                · have hab : a + b ≤ plc S x := by have z := mt (lc_gt ha hb (by omega)).mpr h66; omega
                  refine Y_iload 38 rfl (pc2 := 71) rfl rfl ?_
                  refine Y_i2l 39 rfl (pc2 := 72) rfl rfl ?_
                  refine Y_iload 40 rfl (pc2 := 74) rfl rfl ?_
                  refine Y_i2l 41 rfl (pc2 := 75) rfl rfl ?_
                  refine Y_ladd 42 rfl (pc2 := 76) rfl ?_
                  refine Y_aload_n 43 rfl (pc2 := 77) rfl rfl ?_
                  refine Y_getR 44 rfl (pc2 := 80) rfl fl_mo_44 ly_mo (by decide) rfl rfl (by omega) ?_
                  refine Y_iload_n 45 rfl (pc2 := 81) rfl rfl ?_
                  refine Y_iald 46 rfl (pc2 := 82) rfl ly_mo_places rfl (by omega) (by decide) ?_
                  refine Y_top ((h.e (by decide) (by decide)).trans (plc_is w hy h40).1) ?_
                  refine Y_i2l 47 rfl (pc2 := 83) rfl rfl ?_
                  refine Y_lcmp 48 rfl (pc2 := 84) rfl ?_
                  refine Y_if_le 49 rfl (pc2 := 87) rfl (tgt := 90) (by decide) (fun h84 => ?_) (fun h84 => ?_)
                  · have hdb : d + b ≤ plc S y := by have z := mt (lc_gt hd hb (by omega)).mpr (Int32.not_lt.mpr h84); omega
                    refine Y_iconst 52 rfl (pc2 := 91) rfl (v := nI 0) (by decide) ?_
                    refine Y_istore 53 rfl (pc2 := 93) rfl (Nat.le_of_ble_eq_true rfl) (ls2 := [some (.ref _), some (.int _), some (.int _), some (.int _), some (.int _), some (.int _), some (.int _)]) rfl ?_
                    have e1 : sp_copy S (nI x) (nI a) (nI y) (nI d) (nI b) = nI b := by unfold sp_copy; rw [cI_t ⟨⟨x, hx, rfl⟩, ⟨y, hy, rfl⟩⟩, nv_nI (k := x) (by omega), nv_nI (k := y) (by omega), cI_t ⟨h28, h40⟩, cI_t ⟨⟨a, b, rfl, rfl, hab⟩, ⟨d, b, rfl, rfl, hdb⟩⟩]
                    have e2 : st_copy S (nI x) (nI a) (nI y) (nI d) (nI b) = ur_ S 166 (cprow (S 166) (16 * x + a) (16 * y + d) b) := by
                      unfold st_copy
                      rw [cI_t (show coC _ _ _ _ _ _ from ⟨⟨⟨x, hx, rfl⟩, ⟨y, hy, rfl⟩⟩, ⟨by rw [nv_nI (by omega)]; exact h28, by rw [nv_nI (by omega)]; exact h40⟩, by rw [nv_nI (by omega)]; exact ⟨a, b, rfl, rfl, hab⟩, by rw [nv_nI (by omega)]; exact ⟨d, b, rfl, rfl, hdb⟩⟩), nv_nI (k := x) (by omega), nv_nI (k := y) (by omega), nv_nI (k := a) (by omega), nv_nI (k := b) (by omega), nv_nI (k := d) (by omega)]
                    rw [e1, e2]
                    refine Y_mem (wri_0 (b0 := 0) (f := fun j => S 166 (16 * x + a + j))) (L_copy1 h w hx hy (by omega) (by omega) ?_ 0 (Nat.zero_le _))
                    refine Y_mem (wri_0 (a := 166) (b0 := 16 * y + d) (f := fun j => S 166 (16 * x + a + j))) (L_copy2 (m := m) ?_ hx hy (by omega) (by omega) (fun q hq => by rw [ur_ne (by omega)]) (fun j hj => ?_) 0 (Nat.zero_le _))
                    · exact ⟨fun q h1 h2 => by rw [ur_ne (by omega)]; exact h.1 q h1 h2, by rw [ur_ne (by omega)]; exact h.2.1, by rw [ur_ne (by omega)]; exact h.2.2⟩
                    · rw [ur_same]
                      unfold wri
                      rw [if_pos (by omega)]; rfl
                  · refine Y_ldc 50 rfl (pc2 := 89) rfl kc_mo_138 ?_
                    refine Y_iret 51 rfl rfl rfl ⟨rfl, ?_⟩
                    dsimp only
                    first | exact pm_bad h (by unfold sp_copy; rw [cI_t ⟨⟨x, hx, rfl⟩, ⟨y, hy, rfl⟩⟩, nv_nI (k := x) (by omega), nv_nI (k := y) (by omega), cI_t ⟨h28, h40⟩, cI_f (fun e => (hol_f hpx e.1).1 h39)]; rfl) (by unfold st_copy; rw [cI_f (fun e => (hol_f hpx (by have z := e.2.2.1; rw [nv_nI (by omega)] at z; exact z)).1 h39)]) | exact pm_bad h (by unfold sp_copy; rw [cI_t ⟨⟨x, hx, rfl⟩, ⟨y, hy, rfl⟩⟩, nv_nI (k := x) (by omega), nv_nI (k := y) (by omega), cI_t ⟨h28, h40⟩, cI_f (fun e => (hol_f hpy e.2).1 h44)]; rfl) (by unfold st_copy; rw [cI_f (fun e => (hol_f hpy (by have z := e.2.2.2; rw [nv_nI (by omega)] at z; exact z)).1 h44)]) | exact pm_bad h (by unfold sp_copy; rw [cI_t ⟨⟨x, hx, rfl⟩, ⟨y, hy, rfl⟩⟩, nv_nI (k := x) (by omega), nv_nI (k := y) (by omega), cI_t ⟨h28, h40⟩, cI_f (fun e => (hol_f hpx e.1).2.1 h49)]; rfl) (by unfold st_copy; rw [cI_f (fun e => (hol_f hpx (by have z := e.2.2.1; rw [nv_nI (by omega)] at z; exact z)).2.1 h49)]) | exact pm_bad h (by unfold sp_copy; rw [cI_t ⟨⟨x, hx, rfl⟩, ⟨y, hy, rfl⟩⟩, nv_nI (k := x) (by omega), nv_nI (k := y) (by omega), cI_t ⟨h28, h40⟩, cI_f (fun e => absurd ((hol_n ha hb hpx).mp e.1) (by have z := (lc_gt ha hb (by omega)).mp h66; omega))]; rfl) (by unfold st_copy; rw [cI_f (fun e => absurd ((hol_n ha hb hpx).mp (by have z := e.2.2.1; rw [nv_nI (by omega)] at z; exact z)) (by have z := (lc_gt ha hb (by omega)).mp h66; omega))]) | exact pm_bad h (by unfold sp_copy; rw [cI_t ⟨⟨x, hx, rfl⟩, ⟨y, hy, rfl⟩⟩, nv_nI (k := x) (by omega), nv_nI (k := y) (by omega), cI_t ⟨h28, h40⟩, cI_f (fun e => absurd ((hol_n hd hb hpy).mp e.2) (by have z := (lc_gt hd hb (by omega)).mp (Int32.not_le.mp h84); omega))]; rfl) (by unfold st_copy; rw [cI_f (fun e => absurd ((hol_n hd hb hpy).mp (by have z := e.2.2.2; rw [nv_nI (by omega)] at z; exact z)) (by have z := (lc_gt hd hb (by omega)).mp (Int32.not_le.mp h84); omega))])
        · refine Y_ldc 18 rfl (pc2 := 37) rfl kc_mo_137 ?_
          refine Y_iret 19 rfl rfl rfl ⟨rfl, ?_⟩
          dsimp only
          first
            | exact (by
                have hz := hnx.mp h23
                exact pm_bad h (by unfold sp_copy; rw [cI_t ⟨⟨x, hx, rfl⟩, ⟨y, hy, rfl⟩⟩, cI_f (fun e => e.1 (by rw [nv_nI (by omega)]; exact hz))]; rfl) (by unfold st_copy; rw [cI_f (fun e => e.2.1.1 (by rw [nv_nI (by omega)]; exact hz))]))
            | exact (by
                have hz := hny.mp (Int32.not_le.mp h32)
                exact pm_bad h (by unfold sp_copy; rw [cI_t ⟨⟨x, hx, rfl⟩, ⟨y, hy, rfl⟩⟩, cI_f (fun e => e.2 (by rw [nv_nI (by omega)]; exact hz))]; rfl) (by unfold st_copy; rw [cI_f (fun e => e.2.1.2 (by rw [nv_nI (by omega)]; exact hz))]))
    · refine Y_ldc 6 rfl (pc2 := 16) rfl kc_mo_79 ?_
      refine Y_iret 7 rfl rfl rfl ⟨rfl, ?_⟩
      dsimp only
      first | exact pm_bad h (by unfold sp_copy; rw [cI_f (fun e => h4 e.1)]; rfl) (by unfold st_copy; rw [cI_f (fun e => h4 e.1.1)]) | exact pm_bad h (by unfold sp_copy; rw [cI_f (fun e => h11 e.2)]; rfl) (by unfold st_copy; rw [cI_f (fun e => h11 e.1.2)])

set_option maxHeartbeats 400000 in
theorem L_layM {G : Nat × (Nat → Int32)} {m : Mm} {S : Mm} (h : RM m S) (w : WF S) {l f g s : Nat} (hl : l < 4) (hf : f < 6) (hg : g < 2) (hs : s < 2) (hq : ¬ S 165 s = -1) : ∀ i, i ≤ 2 ^ (l + 1) → ∀ (u : Option Value), Y G M_mo_lay (0, 0) 64 [some (.ref 153), some (.int (nI l)), some (.int (nI f)), some (.int (nI g)), some (.int (nI s)), some (.int (nI (cnt (fun k => ¬ vS S s k = -9) i))), some (.int (nI i)), u] [] (LAY, ur_ m 157 (wri (m 157) (ix l f g 0) i (vS S s))) (qm_ LAY (pm_ (nI (cnt (fun k => ¬ vS S s k = -9) (2 ^ (l + 1)))) m (layS S l f g s))) := by
  have hz := sz_16 hl
  have hpl := (plc_is w hs hq).2
  refine ind_ (fun i hi ih u => ?_)
  refine Y_iload 34 rfl (pc2 := 66) rfl rfl ?_
  refine Y_iload_n 35 rfl (pc2 := 67) rfl rfl ?_
  refine Y_cS 36 rfl (pc2 := 70) rfl ok_mo_stepsOf lk_mo_127 vs_mo_stepsOf (as := [.int _]) (rest := [.int _]) rfl rfl (T_mo_stepsOf (by omega)) ?_
  rintro _ _ ⟨rfl, rfl⟩
  change Y _ _ _ _ _ [.int _, .int _] _ _
  refine Y_icmp_gen 37 rfl (pc2 := 73) rfl (tgt := 163) (by decide) (by omega) (by omega) (fun h70 => ?_) (fun h70 => ?_)
  · refine Y_iload 84 rfl (pc2 := 165) rfl rfl ?_
    refine Y_iret 85 rfl rfl rfl ⟨rfl, ?_⟩
    dsimp only
    refine ⟨by rw [show i = 2 ^ (l + 1) by omega], ?_, fun a ha => by rw [ur_ne (by omega)]⟩
    have e : m 157 = S 157 := h.1 157 (by decide) (by decide)
    rw [e, show i = 2 ^ (l + 1) by omega]
    exact RM_ur h (by decide)
  · refine Y_iload 38 rfl (pc2 := 75) rfl rfl ?_
    refine Y_aload_n 39 rfl (pc2 := 76) rfl rfl ?_
    refine Y_getR 40 rfl (pc2 := 79) rfl fl_mo_44 ly_mo (by decide) rfl rfl (by omega) ?_
    refine Y_iload 41 rfl (pc2 := 81) rfl rfl ?_
    refine Y_iald 42 rfl (pc2 := 82) rfl ly_mo_places rfl (by omega) (by decide) ?_
    refine Y_top ((congrFun (ur_ne (by decide)) _).trans ((h.e (by decide) (by decide)).trans (plc_is w hs hq).1)) ?_
    refine Y_icmp_gen 43 rfl (pc2 := 85) rfl (tgt := 101) (by decide) (by omega) (by omega) (fun h82 => ?_) (fun h82 => ?_)
    · refine Y_bipush 53 rfl (pc2 := 103) rfl (v := -9) (by decide) ?_
      refine Y_istore 54 rfl (pc2 := 105) rfl (Nat.le_of_ble_eq_true rfl) (ls2 := [some (.ref _), some (.int _), some (.int _), some (.int _), some (.int _), some (.int _), some (.int _), some (.int _)]) rfl ?_
      refine Y_iload 55 rfl (pc2 := 107) rfl rfl ?_
      refine Y_bipush 56 rfl (pc2 := 109) rfl (v := -4) (by decide) ?_
      refine Y_iconst 57 rfl (pc2 := 110) rfl (v := nI 4) (by decide) ?_
      refine Y_cS 58 rfl (pc2 := 113) rfl ok_mo_isIn lk_mo_62 vs_mo_isIn (as := [.int _, .int _, .int _]) (rest := []) rfl rfl T_mo_isIn ?_
      rintro _ _ ⟨rfl, rfl⟩
      change Y _ _ _ _ _ [.int _] _ _
      refine Y_if_eqb 59 rfl (pc2 := 116) rfl (tgt := 121) (by decide) (fun h113 => ?_) (fun h113 => ?_)
      · refine Y_bipush 62 rfl (pc2 := 123) rfl (v := -9) (by decide) ?_
        refine Y_istore 63 rfl (pc2 := 125) rfl (Nat.le_of_ble_eq_true rfl) (ls2 := [some (.ref _), some (.int _), some (.int _), some (.int _), some (.int _), some (.int _), some (.int _), some (.int _)]) rfl ?_
        refine Y_aload_n 64 rfl (pc2 := 126) rfl rfl ?_
        refine Y_getR 65 rfl (pc2 := 129) rfl fl_mo_19 ly_mo (by decide) rfl rfl (by omega) ?_
        refine Y_iload_n 66 rfl (pc2 := 130) rfl rfl ?_
        refine Y_iload_n 67 rfl (pc2 := 131) rfl rfl ?_
        refine Y_iload_n 68 rfl (pc2 := 132) rfl rfl ?_
        refine Y_iload 69 rfl (pc2 := 134) rfl rfl ?_
        refine Y_cS 70 rfl (pc2 := 137) rfl ok_mo_placeOf lk_mo_130 vs_mo_placeOf (as := [.int _, .int _, .int _, .int _]) (rest := [.ref _]) rfl rfl T_mo_placeOf ?_
        rintro _ _ ⟨rfl, rfl⟩
        change Y _ _ _ _ _ [.int _, .ref _] _ _
        refine Y_iload 71 rfl (pc2 := 139) rfl rfl ?_
        refine Y_iast 72 rfl (pc2 := 140) rfl ly_mo_shifts rfl (by omega) (by decide) rfl ?_
        refine Y_iload 73 rfl (pc2 := 142) rfl rfl ?_
        refine Y_iload 74 rfl (pc2 := 144) rfl rfl ?_
        refine Y_bipush 75 rfl (pc2 := 146) rfl (v := -9) (by decide) ?_
        refine Y_icmp_ne 76 rfl (pc2 := 149) rfl (tgt := 153) (by decide) (fun h146 => ?_) (fun h146 => ?_)
        · refine Y_iconst 79 rfl (pc2 := 154) rfl (v := nI 1) (by decide) ?_
          refine Y_iadd 80 rfl (pc2 := 155) rfl ?_
          refine Y_top (nI_add _ _) ?_
          refine Y_istore 81 rfl (pc2 := 157) rfl (Nat.le_of_ble_eq_true rfl) (ls2 := [some (.ref _), some (.int _), some (.int _), some (.int _), some (.int _), some (.int _), some (.int _), some (.int _)]) rfl ?_
          refine Y_iinc 82 rfl (pc2 := 160) rfl rfl (nI_inc _ 1) (ls2 := [some (.ref _), some (.int _), some (.int _), some (.int _), some (.int _), some (.int _), some (.int _), some (.int _)]) rfl ?_
          refine Y_goto 83 rfl (pc2 := 64) (by decide) ?_
          have hi2 := ih (i + 1) (by omega) (by omega)
          rw [← wri_s] at hi2
          first
            | exact (by
                have e : vS S s i = S 166 (16 * s + i) := cI_t ⟨by omega, h113⟩
                have e2 : ¬ vS S s i = -9 := by rw [e]; exact h146
                rw [cnt_t (f := (fun k => ¬ vS S s k = -9)) e2, e] at hi2
                exact hi2 _)
            | exact (by
                have e : vS S s i = S 166 (16 * s + i) := cI_t ⟨by omega, h113⟩
                have e3 : S 166 (16 * s + i) = -9 := by first | exact h146 | exact Classical.byContradiction h146
                have z := h113.1
                rw [e3] at z
                exact absurd z (by decide))
            | exact (by
                have e : vS S s i = -9 := cI_f (fun z => by first | exact h113 z.2 | omega)
                rw [cnt_f (f := (fun k => ¬ vS S s k = -9)) (not_not_intro e), e] at hi2
                exact hi2 _)
            | exact absurd rfl (by assumption : ¬ (-9 : Int32) = -9)
            | exact absurd h113.1 (by decide)
        · refine Y_iconst 77 rfl (pc2 := 150) rfl (v := nI 0) (by decide) ?_
          refine Y_goto 78 rfl (pc2 := 154) (by decide) ?_
          refine Y_iadd 80 rfl (pc2 := 155) rfl ?_
          refine Y_top (nI_add _ _) ?_
          refine Y_istore 81 rfl (pc2 := 157) rfl (Nat.le_of_ble_eq_true rfl) (ls2 := [some (.ref _), some (.int _), some (.int _), some (.int _), some (.int _), some (.int _), some (.int _), some (.int _)]) rfl ?_
          refine Y_iinc 82 rfl (pc2 := 160) rfl rfl (nI_inc _ 1) (ls2 := [some (.ref _), some (.int _), some (.int _), some (.int _), some (.int _), some (.int _), some (.int _), some (.int _)]) rfl ?_
          refine Y_goto 83 rfl (pc2 := 64) (by decide) ?_
          have hi2 := ih (i + 1) (by omega) (by omega)
          rw [← wri_s] at hi2
          first
            | exact (by
                have e : vS S s i = S 166 (16 * s + i) := cI_t ⟨by omega, h113⟩
                have e2 : ¬ vS S s i = -9 := by rw [e]; exact h146
                rw [cnt_t (f := (fun k => ¬ vS S s k = -9)) e2, e] at hi2
                exact hi2 _)
            | exact (by
                have e : vS S s i = S 166 (16 * s + i) := cI_t ⟨by omega, h113⟩
                have e3 : S 166 (16 * s + i) = -9 := by first | exact h146 | exact Classical.byContradiction h146
                have z := h113.1
                rw [e3] at z
                exact absurd z (by decide))
            | exact (by
                have e : vS S s i = -9 := cI_f (fun z => by first | exact h113 z.2 | omega)
                rw [cnt_f (f := (fun k => ¬ vS S s k = -9)) (not_not_intro e), e] at hi2
                exact hi2 _)
            | exact absurd rfl (by assumption : ¬ (-9 : Int32) = -9)
            | exact absurd h113.1 (by decide)
      · refine Y_iload 60 rfl (pc2 := 118) rfl rfl ?_
        refine Y_goto 61 rfl (pc2 := 123) (by decide) ?_
        refine Y_istore 63 rfl (pc2 := 125) rfl (Nat.le_of_ble_eq_true rfl) (ls2 := [some (.ref _), some (.int _), some (.int _), some (.int _), some (.int _), some (.int _), some (.int _), some (.int _)]) rfl ?_
        refine Y_aload_n 64 rfl (pc2 := 126) rfl rfl ?_
        refine Y_getR 65 rfl (pc2 := 129) rfl fl_mo_19 ly_mo (by decide) rfl rfl (by omega) ?_
        refine Y_iload_n 66 rfl (pc2 := 130) rfl rfl ?_
        refine Y_iload_n 67 rfl (pc2 := 131) rfl rfl ?_
        refine Y_iload_n 68 rfl (pc2 := 132) rfl rfl ?_
        refine Y_iload 69 rfl (pc2 := 134) rfl rfl ?_
        refine Y_cS 70 rfl (pc2 := 137) rfl ok_mo_placeOf lk_mo_130 vs_mo_placeOf (as := [.int _, .int _, .int _, .int _]) (rest := [.ref _]) rfl rfl T_mo_placeOf ?_
        rintro _ _ ⟨rfl, rfl⟩
        change Y _ _ _ _ _ [.int _, .ref _] _ _
        refine Y_iload 71 rfl (pc2 := 139) rfl rfl ?_
        refine Y_iast 72 rfl (pc2 := 140) rfl ly_mo_shifts rfl (by omega) (by decide) rfl ?_
        refine Y_iload 73 rfl (pc2 := 142) rfl rfl ?_
        refine Y_iload 74 rfl (pc2 := 144) rfl rfl ?_
        refine Y_bipush 75 rfl (pc2 := 146) rfl (v := -9) (by decide) ?_
        refine Y_icmp_ne 76 rfl (pc2 := 149) rfl (tgt := 153) (by decide) (fun h146 => ?_) (fun h146 => ?_)
        · refine Y_iconst 79 rfl (pc2 := 154) rfl (v := nI 1) (by decide) ?_
          refine Y_iadd 80 rfl (pc2 := 155) rfl ?_
          refine Y_top (nI_add _ _) ?_
          refine Y_istore 81 rfl (pc2 := 157) rfl (Nat.le_of_ble_eq_true rfl) (ls2 := [some (.ref _), some (.int _), some (.int _), some (.int _), some (.int _), some (.int _), some (.int _), some (.int _)]) rfl ?_
          refine Y_iinc 82 rfl (pc2 := 160) rfl rfl (nI_inc _ 1) (ls2 := [some (.ref _), some (.int _), some (.int _), some (.int _), some (.int _), some (.int _), some (.int _), some (.int _)]) rfl ?_
          refine Y_goto 83 rfl (pc2 := 64) (by decide) ?_
          have hi2 := ih (i + 1) (by omega) (by omega)
          rw [← wri_s] at hi2
          first
            | exact (by
                have e : vS S s i = S 166 (16 * s + i) := cI_t ⟨by omega, h113⟩
                have e2 : ¬ vS S s i = -9 := by rw [e]; exact h146
                rw [cnt_t (f := (fun k => ¬ vS S s k = -9)) e2, e] at hi2
                exact hi2 _)
            | exact (by
                have e : vS S s i = S 166 (16 * s + i) := cI_t ⟨by omega, h113⟩
                have e3 : S 166 (16 * s + i) = -9 := by first | exact h146 | exact Classical.byContradiction h146
                have z := h113.1
                rw [e3] at z
                exact absurd z (by decide))
            | exact (by
                have e : vS S s i = -9 := cI_f (fun z => by first | exact h113 z.2 | omega)
                rw [cnt_f (f := (fun k => ¬ vS S s k = -9)) (not_not_intro e), e] at hi2
                exact hi2 _)
            | exact absurd rfl (by assumption : ¬ (-9 : Int32) = -9)
            | exact absurd h113.1 (by decide)
        · refine Y_iconst 77 rfl (pc2 := 150) rfl (v := nI 0) (by decide) ?_
          refine Y_goto 78 rfl (pc2 := 154) (by decide) ?_
          refine Y_iadd 80 rfl (pc2 := 155) rfl ?_
          refine Y_top (nI_add _ _) ?_
          refine Y_istore 81 rfl (pc2 := 157) rfl (Nat.le_of_ble_eq_true rfl) (ls2 := [some (.ref _), some (.int _), some (.int _), some (.int _), some (.int _), some (.int _), some (.int _), some (.int _)]) rfl ?_
          refine Y_iinc 82 rfl (pc2 := 160) rfl rfl (nI_inc _ 1) (ls2 := [some (.ref _), some (.int _), some (.int _), some (.int _), some (.int _), some (.int _), some (.int _), some (.int _)]) rfl ?_
          refine Y_goto 83 rfl (pc2 := 64) (by decide) ?_
          have hi2 := ih (i + 1) (by omega) (by omega)
          rw [← wri_s] at hi2
          first
            | exact (by
                have e : vS S s i = S 166 (16 * s + i) := cI_t ⟨by omega, h113⟩
                have e2 : ¬ vS S s i = -9 := by rw [e]; exact h146
                rw [cnt_t (f := (fun k => ¬ vS S s k = -9)) e2, e] at hi2
                exact hi2 _)
            | exact (by
                have e : vS S s i = S 166 (16 * s + i) := cI_t ⟨by omega, h113⟩
                have e3 : S 166 (16 * s + i) = -9 := by first | exact h146 | exact Classical.byContradiction h146
                have z := h113.1
                rw [e3] at z
                exact absurd z (by decide))
            | exact (by
                have e : vS S s i = -9 := cI_f (fun z => by first | exact h113 z.2 | omega)
                rw [cnt_f (f := (fun k => ¬ vS S s k = -9)) (not_not_intro e), e] at hi2
                exact hi2 _)
            | exact absurd rfl (by assumption : ¬ (-9 : Int32) = -9)
            | exact absurd h113.1 (by decide)
    · refine Y_aload_n 44 rfl (pc2 := 86) rfl rfl ?_
      refine Y_getR 45 rfl (pc2 := 89) rfl fl_mo_47 ly_mo (by decide) rfl rfl (by omega) ?_
      refine Y_bipush 46 rfl (pc2 := 91) rfl (v := nI 16) (by decide) ?_
      refine Y_iload 47 rfl (pc2 := 93) rfl rfl ?_
      refine Y_imul 48 rfl (pc2 := 94) rfl ?_
      refine Y_top (nI_mul _ _) ?_
      refine Y_iload 49 rfl (pc2 := 96) rfl rfl ?_
      refine Y_iadd 50 rfl (pc2 := 97) rfl ?_
      refine Y_top (nI_add _ _) ?_
      refine Y_iald 51 rfl (pc2 := 98) rfl ly_mo_numbers rfl (by omega) (by decide) ?_
      refine Y_top ((congrFun (ur_ne (by decide)) _).trans (h.e (by decide) (by decide))) ?_
      refine Y_goto 52 rfl (pc2 := 103) (by decide) ?_
      refine Y_istore 54 rfl (pc2 := 105) rfl (Nat.le_of_ble_eq_true rfl) (ls2 := [some (.ref _), some (.int _), some (.int _), some (.int _), some (.int _), some (.int _), some (.int _), some (.int _)]) rfl ?_
      refine Y_iload 55 rfl (pc2 := 107) rfl rfl ?_
      refine Y_bipush 56 rfl (pc2 := 109) rfl (v := -4) (by decide) ?_
      refine Y_iconst 57 rfl (pc2 := 110) rfl (v := nI 4) (by decide) ?_
      refine Y_cS 58 rfl (pc2 := 113) rfl ok_mo_isIn lk_mo_62 vs_mo_isIn (as := [.int _, .int _, .int _]) (rest := []) rfl rfl T_mo_isIn ?_
      rintro _ _ ⟨rfl, rfl⟩
      change Y _ _ _ _ _ [.int _] _ _
      refine Y_if_eqb 59 rfl (pc2 := 116) rfl (tgt := 121) (by decide) (fun h113 => ?_) (fun h113 => ?_)
      · refine Y_bipush 62 rfl (pc2 := 123) rfl (v := -9) (by decide) ?_
        refine Y_istore 63 rfl (pc2 := 125) rfl (Nat.le_of_ble_eq_true rfl) (ls2 := [some (.ref _), some (.int _), some (.int _), some (.int _), some (.int _), some (.int _), some (.int _), some (.int _)]) rfl ?_
        refine Y_aload_n 64 rfl (pc2 := 126) rfl rfl ?_
        refine Y_getR 65 rfl (pc2 := 129) rfl fl_mo_19 ly_mo (by decide) rfl rfl (by omega) ?_
        refine Y_iload_n 66 rfl (pc2 := 130) rfl rfl ?_
        refine Y_iload_n 67 rfl (pc2 := 131) rfl rfl ?_
        refine Y_iload_n 68 rfl (pc2 := 132) rfl rfl ?_
        refine Y_iload 69 rfl (pc2 := 134) rfl rfl ?_
        refine Y_cS 70 rfl (pc2 := 137) rfl ok_mo_placeOf lk_mo_130 vs_mo_placeOf (as := [.int _, .int _, .int _, .int _]) (rest := [.ref _]) rfl rfl T_mo_placeOf ?_
        rintro _ _ ⟨rfl, rfl⟩
        change Y _ _ _ _ _ [.int _, .ref _] _ _
        refine Y_iload 71 rfl (pc2 := 139) rfl rfl ?_
        refine Y_iast 72 rfl (pc2 := 140) rfl ly_mo_shifts rfl (by omega) (by decide) rfl ?_
        refine Y_iload 73 rfl (pc2 := 142) rfl rfl ?_
        refine Y_iload 74 rfl (pc2 := 144) rfl rfl ?_
        refine Y_bipush 75 rfl (pc2 := 146) rfl (v := -9) (by decide) ?_
        refine Y_icmp_ne 76 rfl (pc2 := 149) rfl (tgt := 153) (by decide) (fun h146 => ?_) (fun h146 => ?_)
        · refine Y_iconst 79 rfl (pc2 := 154) rfl (v := nI 1) (by decide) ?_
          refine Y_iadd 80 rfl (pc2 := 155) rfl ?_
          refine Y_top (nI_add _ _) ?_
          refine Y_istore 81 rfl (pc2 := 157) rfl (Nat.le_of_ble_eq_true rfl) (ls2 := [some (.ref _), some (.int _), some (.int _), some (.int _), some (.int _), some (.int _), some (.int _), some (.int _)]) rfl ?_
          refine Y_iinc 82 rfl (pc2 := 160) rfl rfl (nI_inc _ 1) (ls2 := [some (.ref _), some (.int _), some (.int _), some (.int _), some (.int _), some (.int _), some (.int _), some (.int _)]) rfl ?_
          refine Y_goto 83 rfl (pc2 := 64) (by decide) ?_
          have hi2 := ih (i + 1) (by omega) (by omega)
          rw [← wri_s] at hi2
          first
            | exact (by
                have e : vS S s i = S 166 (16 * s + i) := cI_t ⟨by omega, h113⟩
                have e2 : ¬ vS S s i = -9 := by rw [e]; exact h146
                rw [cnt_t (f := (fun k => ¬ vS S s k = -9)) e2, e] at hi2
                exact hi2 _)
            | exact (by
                have e : vS S s i = S 166 (16 * s + i) := cI_t ⟨by omega, h113⟩
                have e3 : S 166 (16 * s + i) = -9 := by first | exact h146 | exact Classical.byContradiction h146
                have z := h113.1
                rw [e3] at z
                exact absurd z (by decide))
            | exact (by
                have e : vS S s i = -9 := cI_f (fun z => by first | exact h113 z.2 | omega)
                rw [cnt_f (f := (fun k => ¬ vS S s k = -9)) (not_not_intro e), e] at hi2
                exact hi2 _)
            | exact absurd rfl (by assumption : ¬ (-9 : Int32) = -9)
            | exact absurd h113.1 (by decide)
        · refine Y_iconst 77 rfl (pc2 := 150) rfl (v := nI 0) (by decide) ?_
          refine Y_goto 78 rfl (pc2 := 154) (by decide) ?_
          refine Y_iadd 80 rfl (pc2 := 155) rfl ?_
          refine Y_top (nI_add _ _) ?_
          refine Y_istore 81 rfl (pc2 := 157) rfl (Nat.le_of_ble_eq_true rfl) (ls2 := [some (.ref _), some (.int _), some (.int _), some (.int _), some (.int _), some (.int _), some (.int _), some (.int _)]) rfl ?_
          refine Y_iinc 82 rfl (pc2 := 160) rfl rfl (nI_inc _ 1) (ls2 := [some (.ref _), some (.int _), some (.int _), some (.int _), some (.int _), some (.int _), some (.int _), some (.int _)]) rfl ?_
          refine Y_goto 83 rfl (pc2 := 64) (by decide) ?_
          have hi2 := ih (i + 1) (by omega) (by omega)
          rw [← wri_s] at hi2
          first
            | exact (by
                have e : vS S s i = S 166 (16 * s + i) := cI_t ⟨by omega, h113⟩
                have e2 : ¬ vS S s i = -9 := by rw [e]; exact h146
                rw [cnt_t (f := (fun k => ¬ vS S s k = -9)) e2, e] at hi2
                exact hi2 _)
            | exact (by
                have e : vS S s i = S 166 (16 * s + i) := cI_t ⟨by omega, h113⟩
                have e3 : S 166 (16 * s + i) = -9 := by first | exact h146 | exact Classical.byContradiction h146
                have z := h113.1
                rw [e3] at z
                exact absurd z (by decide))
            | exact (by
                have e : vS S s i = -9 := cI_f (fun z => by first | exact h113 z.2 | omega)
                rw [cnt_f (f := (fun k => ¬ vS S s k = -9)) (not_not_intro e), e] at hi2
                exact hi2 _)
            | exact absurd rfl (by assumption : ¬ (-9 : Int32) = -9)
            | exact absurd h113.1 (by decide)
      · refine Y_iload 60 rfl (pc2 := 118) rfl rfl ?_
        refine Y_goto 61 rfl (pc2 := 123) (by decide) ?_
        refine Y_istore 63 rfl (pc2 := 125) rfl (Nat.le_of_ble_eq_true rfl) (ls2 := [some (.ref _), some (.int _), some (.int _), some (.int _), some (.int _), some (.int _), some (.int _), some (.int _)]) rfl ?_
        refine Y_aload_n 64 rfl (pc2 := 126) rfl rfl ?_
        refine Y_getR 65 rfl (pc2 := 129) rfl fl_mo_19 ly_mo (by decide) rfl rfl (by omega) ?_
        refine Y_iload_n 66 rfl (pc2 := 130) rfl rfl ?_
        refine Y_iload_n 67 rfl (pc2 := 131) rfl rfl ?_
        refine Y_iload_n 68 rfl (pc2 := 132) rfl rfl ?_
        refine Y_iload 69 rfl (pc2 := 134) rfl rfl ?_
        refine Y_cS 70 rfl (pc2 := 137) rfl ok_mo_placeOf lk_mo_130 vs_mo_placeOf (as := [.int _, .int _, .int _, .int _]) (rest := [.ref _]) rfl rfl T_mo_placeOf ?_
        rintro _ _ ⟨rfl, rfl⟩
        change Y _ _ _ _ _ [.int _, .ref _] _ _
        refine Y_iload 71 rfl (pc2 := 139) rfl rfl ?_
        refine Y_iast 72 rfl (pc2 := 140) rfl ly_mo_shifts rfl (by omega) (by decide) rfl ?_
        refine Y_iload 73 rfl (pc2 := 142) rfl rfl ?_
        refine Y_iload 74 rfl (pc2 := 144) rfl rfl ?_
        refine Y_bipush 75 rfl (pc2 := 146) rfl (v := -9) (by decide) ?_
        refine Y_icmp_ne 76 rfl (pc2 := 149) rfl (tgt := 153) (by decide) (fun h146 => ?_) (fun h146 => ?_)
        · refine Y_iconst 79 rfl (pc2 := 154) rfl (v := nI 1) (by decide) ?_
          refine Y_iadd 80 rfl (pc2 := 155) rfl ?_
          refine Y_top (nI_add _ _) ?_
          refine Y_istore 81 rfl (pc2 := 157) rfl (Nat.le_of_ble_eq_true rfl) (ls2 := [some (.ref _), some (.int _), some (.int _), some (.int _), some (.int _), some (.int _), some (.int _), some (.int _)]) rfl ?_
          refine Y_iinc 82 rfl (pc2 := 160) rfl rfl (nI_inc _ 1) (ls2 := [some (.ref _), some (.int _), some (.int _), some (.int _), some (.int _), some (.int _), some (.int _), some (.int _)]) rfl ?_
          refine Y_goto 83 rfl (pc2 := 64) (by decide) ?_
          have hi2 := ih (i + 1) (by omega) (by omega)
          rw [← wri_s] at hi2
          first
            | exact (by
                have e : vS S s i = S 166 (16 * s + i) := cI_t ⟨by omega, h113⟩
                have e2 : ¬ vS S s i = -9 := by rw [e]; exact h146
                rw [cnt_t (f := (fun k => ¬ vS S s k = -9)) e2, e] at hi2
                exact hi2 _)
            | exact (by
                have e : vS S s i = S 166 (16 * s + i) := cI_t ⟨by omega, h113⟩
                have e3 : S 166 (16 * s + i) = -9 := by first | exact h146 | exact Classical.byContradiction h146
                have z := h113.1
                rw [e3] at z
                exact absurd z (by decide))
            | exact (by
                have e : vS S s i = -9 := cI_f (fun z => by first | exact h113 z.2 | omega)
                rw [cnt_f (f := (fun k => ¬ vS S s k = -9)) (not_not_intro e), e] at hi2
                exact hi2 _)
            | exact absurd rfl (by assumption : ¬ (-9 : Int32) = -9)
            | exact absurd h113.1 (by decide)
        · refine Y_iconst 77 rfl (pc2 := 150) rfl (v := nI 0) (by decide) ?_
          refine Y_goto 78 rfl (pc2 := 154) (by decide) ?_
          refine Y_iadd 80 rfl (pc2 := 155) rfl ?_
          refine Y_top (nI_add _ _) ?_
          refine Y_istore 81 rfl (pc2 := 157) rfl (Nat.le_of_ble_eq_true rfl) (ls2 := [some (.ref _), some (.int _), some (.int _), some (.int _), some (.int _), some (.int _), some (.int _), some (.int _)]) rfl ?_
          refine Y_iinc 82 rfl (pc2 := 160) rfl rfl (nI_inc _ 1) (ls2 := [some (.ref _), some (.int _), some (.int _), some (.int _), some (.int _), some (.int _), some (.int _), some (.int _)]) rfl ?_
          refine Y_goto 83 rfl (pc2 := 64) (by decide) ?_
          have hi2 := ih (i + 1) (by omega) (by omega)
          rw [← wri_s] at hi2
          first
            | exact (by
                have e : vS S s i = S 166 (16 * s + i) := cI_t ⟨by omega, h113⟩
                have e2 : ¬ vS S s i = -9 := by rw [e]; exact h146
                rw [cnt_t (f := (fun k => ¬ vS S s k = -9)) e2, e] at hi2
                exact hi2 _)
            | exact (by
                have e : vS S s i = S 166 (16 * s + i) := cI_t ⟨by omega, h113⟩
                have e3 : S 166 (16 * s + i) = -9 := by first | exact h146 | exact Classical.byContradiction h146
                have z := h113.1
                rw [e3] at z
                exact absurd z (by decide))
            | exact (by
                have e : vS S s i = -9 := cI_f (fun z => by first | exact h113 z.2 | omega)
                rw [cnt_f (f := (fun k => ¬ vS S s k = -9)) (not_not_intro e), e] at hi2
                exact hi2 _)
            | exact absurd rfl (by assumption : ¬ (-9 : Int32) = -9)
            | exact absurd h113.1 (by decide)

set_option maxHeartbeats 400000 in
theorem T_mo_lay {G : Nat × (Nat → Int32)} {m : Mm} {S : Mm} (h : RM m S) (w : WF S) {x y z u : Int32} : Y G M_mo_lay (0, 0) 0 (en_ M_mo_lay [.ref (153), .int (x), .int (y), .int (z), .int (u)]) [] (LAY, m) (qm_ LAY (pm_ (sp_lay S x y z u) m (st_lay S x y z u))) := by
  change Y _ _ _ _ [some (.ref _), some (.int _), some (.int _), some (.int _), some (.int _), none, none, none] _ _ _
  refine Y_iload_n 0 rfl (pc2 := 1) rfl rfl ?_
  refine Y_iload_n 1 rfl (pc2 := 2) rfl rfl ?_
  refine Y_cS 2 rfl (pc2 := 5) rfl ok_mo_isFigure lk_mo_124 vs_mo_isFigure (as := [.int _, .int _]) (rest := []) rfl rfl T_mo_isFigure ?_
  rintro _ _ ⟨rfl, rfl⟩
  change Y _ _ _ _ _ [.int _] _ _
  refine Y_if_eqb 3 rfl (pc2 := 8) rfl (tgt := 25) (by decide) (fun h5 => ?_) (fun h5 => ?_)
  · refine Y_ldc 12 rfl (pc2 := 27) rfl kc_mo_79 ?_
    refine Y_iret 13 rfl rfl rfl ⟨rfl, ?_⟩
    dsimp only
    first | exact pm_bad h (by unfold sp_lay; rw [cI_f (fun e => h5 e.1)]; rfl) (by unfold st_lay; rw [cI_f (fun e => h5 e.1.1)]) | exact pm_bad h (by unfold sp_lay; rw [cI_f (fun e => h14 e.2.1)]; rfl) (by unfold st_lay; rw [cI_f (fun e => h14 e.1.2.1)]) | exact pm_bad h (by unfold sp_lay; rw [cI_f (fun e => h22 e.2.2)]; rfl) (by unfold st_lay; rw [cI_f (fun e => h22 e.1.2.2)])
  · obtain ⟨⟨l, hl, rfl⟩, ⟨f, hf, rfl⟩⟩ := h5
    have hz := sz_16 hl
    refine Y_iload_n 4 rfl (pc2 := 9) rfl rfl ?_
    refine Y_iconst 5 rfl (pc2 := 10) rfl (v := nI 0) (by decide) ?_
    refine Y_iconst 6 rfl (pc2 := 11) rfl (v := nI 1) (by decide) ?_
    refine Y_cS 7 rfl (pc2 := 14) rfl ok_mo_isIn lk_mo_62 vs_mo_isIn (as := [.int _, .int _, .int _]) (rest := []) rfl rfl (T_mo_isIn0 (by omega)) ?_
    rintro _ _ ⟨rfl, rfl⟩
    change Y _ _ _ _ _ [.int _] _ _
    refine Y_if_eqb 8 rfl (pc2 := 17) rfl (tgt := 25) (by decide) (fun h14 => ?_) (fun h14 => ?_)
    · refine Y_ldc 12 rfl (pc2 := 27) rfl kc_mo_79 ?_
      refine Y_iret 13 rfl rfl rfl ⟨rfl, ?_⟩
      dsimp only
      first | exact pm_bad h (by unfold sp_lay; rw [cI_f (fun e => h5 e.1)]; rfl) (by unfold st_lay; rw [cI_f (fun e => h5 e.1.1)]) | exact pm_bad h (by unfold sp_lay; rw [cI_f (fun e => h14 e.2.1)]; rfl) (by unfold st_lay; rw [cI_f (fun e => h14 e.1.2.1)]) | exact pm_bad h (by unfold sp_lay; rw [cI_f (fun e => h22 e.2.2)]; rfl) (by unfold st_lay; rw [cI_f (fun e => h22 e.1.2.2)])
    · obtain ⟨g, hg, rfl⟩ := h14
      refine Y_iload 9 rfl (pc2 := 19) rfl rfl ?_
      refine Y_cS 10 rfl (pc2 := 22) rfl ok_mo_isSheet lk_mo_134 vs_mo_isSheet (as := [.int _]) (rest := []) rfl rfl T_mo_isSheet ?_
      rintro _ _ ⟨rfl, rfl⟩
      change Y _ _ _ _ _ [.int _] _ _
      refine Y_if_neb 11 rfl (pc2 := 25) rfl (tgt := 28) (by decide) (fun h22 => ?_) (fun h22 => ?_)
      · obtain ⟨s, hs, rfl⟩ := h22
        have hne := pl_neg w hs
        refine Y_aload_n 14 rfl (pc2 := 29) rfl rfl ?_
        refine Y_getR 15 rfl (pc2 := 32) rfl fl_mo_44 ly_mo (by decide) rfl rfl (by omega) ?_
        refine Y_iload 16 rfl (pc2 := 34) rfl rfl ?_
        refine Y_iald 17 rfl (pc2 := 35) rfl ly_mo_places rfl (by omega) (by decide) ?_
        refine Y_top (h.e (by decide) (by decide)) ?_
        refine Y_if_ge 18 rfl (pc2 := 38) rfl (tgt := 41) (by decide) (fun h35 => ?_) (fun h35 => ?_)
        · have h38 : ¬ S 165 s = -1 := fun e => Int32.not_lt.mpr h35 (hne.mpr e)
          have hpl := (plc_is w hs h38).2
          refine Y_aload_n 21 rfl (pc2 := 42) rfl rfl ?_
          refine Y_getR 22 rfl (pc2 := 45) rfl fl_mo_44 ly_mo (by decide) rfl rfl (by omega) ?_
          refine Y_iload 23 rfl (pc2 := 47) rfl rfl ?_
          refine Y_iald 24 rfl (pc2 := 48) rfl ly_mo_places rfl (by omega) (by decide) ?_
          refine Y_top ((h.e (by decide) (by decide)).trans (plc_is w hs h38).1) ?_
          refine Y_iload_n 25 rfl (pc2 := 49) rfl rfl ?_
          refine Y_cS 26 rfl (pc2 := 52) rfl ok_mo_stepsOf lk_mo_127 vs_mo_stepsOf (as := [.int _]) (rest := [.int _]) rfl rfl (T_mo_stepsOf (by omega)) ?_
          rintro _ _ ⟨rfl, rfl⟩
          change Y _ _ _ _ _ [.int _, .int _] _ _
          refine Y_icmp_len 27 rfl (pc2 := 55) rfl (tgt := 58) (by decide) (by omega) (by omega) (fun h52 => ?_) (fun h52 => ?_)
          · refine Y_iconst 30 rfl (pc2 := 59) rfl (v := nI 0) (by decide) ?_
            refine Y_istore 31 rfl (pc2 := 61) rfl (Nat.le_of_ble_eq_true rfl) (ls2 := [some (.ref _), some (.int _), some (.int _), some (.int _), some (.int _), some (.int _), none, none]) rfl ?_
            refine Y_iconst 32 rfl (pc2 := 62) rfl (v := nI 0) (by decide) ?_
            refine Y_istore 33 rfl (pc2 := 64) rfl (Nat.le_of_ble_eq_true rfl) (ls2 := [some (.ref _), some (.int _), some (.int _), some (.int _), some (.int _), some (.int _), some (.int _), none]) rfl ?_
            have e1 : sp_lay S (nI l) (nI f) (nI g) (nI s) = nI (cnt (fun k => ¬ vS S s k = -9) (2 ^ (l + 1))) := by
              unfold sp_lay
              rw [cI_t (show laC _ _ _ _ from ⟨⟨⟨l, hl, rfl⟩, ⟨f, hf, rfl⟩⟩, ⟨g, hg, rfl⟩, ⟨s, hs, rfl⟩⟩), nv_nI (k := s) (by omega), nv_nI (k := l) (by omega), cI_f h38, if_neg (by omega)]
            have e2 : st_lay S (nI l) (nI f) (nI g) (nI s) = layS S l f g s := by
              unfold st_lay
              rw [cI_t ⟨(show laC _ _ _ _ from ⟨⟨⟨l, hl, rfl⟩, ⟨f, hf, rfl⟩⟩, ⟨g, hg, rfl⟩, ⟨s, hs, rfl⟩⟩), by rw [nv_nI (by omega)]; exact h38, by rw [nv_nI (by omega), nv_nI (by omega)]; omega⟩, nv_nI (k := s) (by omega), nv_nI (k := l) (by omega), nv_nI (k := f) (by omega), nv_nI (k := g) (by omega)]
            rw [e1, e2]
            exact Y_mem (wri_0 (b0 := ix l f g 0) (f := vS S s)) (L_layM h w hl hf hg hs h38 0 (Nat.zero_le _) _)
          · refine Y_ldc 28 rfl (pc2 := 57) rfl kc_mo_138 ?_
            refine Y_iret 29 rfl rfl rfl ⟨rfl, ?_⟩
            dsimp only
            exact pm_bad h (by unfold sp_lay; rw [cI_t (show laC _ _ _ _ from ⟨⟨⟨l, hl, rfl⟩, ⟨f, hf, rfl⟩⟩, ⟨g, hg, rfl⟩, ⟨s, hs, rfl⟩⟩), nv_nI (k := s) (by omega), nv_nI (k := l) (by omega), cI_f h38, if_pos (by omega)]; rfl) (by unfold st_lay; rw [cI_f (fun e => e.2.2 (by rw [nv_nI (by omega), nv_nI (by omega)]; omega))])
        · refine Y_ldc 19 rfl (pc2 := 40) rfl kc_mo_137 ?_
          refine Y_iret 20 rfl rfl rfl ⟨rfl, ?_⟩
          dsimp only
          have hz2 := hne.mp (Int32.not_le.mp h35)
          exact pm_bad h (by unfold sp_lay; rw [cI_t (show laC _ _ _ _ from ⟨⟨⟨l, hl, rfl⟩, ⟨f, hf, rfl⟩⟩, ⟨g, hg, rfl⟩, ⟨s, hs, rfl⟩⟩), nv_nI (k := s) (by omega), cI_t hz2]; rfl) (by unfold st_lay; rw [cI_f (fun e => e.2.1 (by rw [nv_nI (by omega)]; exact hz2))])
      · refine Y_ldc 12 rfl (pc2 := 27) rfl kc_mo_79 ?_
        refine Y_iret 13 rfl rfl rfl ⟨rfl, ?_⟩
        dsimp only
        first | exact pm_bad h (by unfold sp_lay; rw [cI_f (fun e => h5 e.1)]; rfl) (by unfold st_lay; rw [cI_f (fun e => h5 e.1.1)]) | exact pm_bad h (by unfold sp_lay; rw [cI_f (fun e => h14 e.2.1)]; rfl) (by unfold st_lay; rw [cI_f (fun e => h14 e.1.2.1)]) | exact pm_bad h (by unfold sp_lay; rw [cI_f (fun e => h22 e.2.2)]; rfl) (by unfold st_lay; rw [cI_f (fun e => h22 e.1.2.2)])
