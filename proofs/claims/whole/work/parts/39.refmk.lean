/-! the reference made -/
set_option maxHeartbeats 1000000 in
theorem rws_uw {m : Mm} {k : Nat} {v : Int32} : ∀ (l : List (Nat → Int32)) (n : Nat), rws m n l → ∀ j R, l[j]? = some R → rws (uw_ m (n + j) k v) n (l.set j (ua_ R k v))
  | [], _, _, j, R, h => by simp at h
  | R0 :: t, n, h, 0, R, hj => by
    have e : R0 = R := by simpa using hj
    refine ⟨?_, rws_fr t (n + 1) h.2 (fun b h1 h2 => funext fun i => uw_ne (by omega))⟩
    funext i
    rw [← e]
    show (if n = n + 0 ∧ i = k then v else m n i) = (if i = k then v else R0 i)
    rw [h.1]
    by_cases hi : i = k
    · rw [if_pos ⟨rfl, hi⟩, if_pos hi]
    · rw [if_neg (fun z => hi z.2), if_neg hi]
  | R0 :: t, n, h, j + 1, R, hj => by
    refine ⟨?_, ?_⟩
    · rw [← h.1]
      exact funext fun i => uw_ne (by omega)
    · have := rws_uw (k := k) (v := v) t (n + 1) h.2 j R (by simpa using hj)
      rw [show n + (j + 1) = n + 1 + j by omega]
      exact this
set_option maxHeartbeats 1000000 in
theorem flr_ua {i : Nat} {v : Int32} {row : Nat → Int32} : ua_ (flr row i v) i v = flr row (i + 1) v := by
  funext k
  unfold ua_ flr
  by_cases h : k = i
  · rw [if_pos h, if_pos (by omega)]
  · rw [if_neg h]
    by_cases h2 : k < i
    · rw [if_pos h2, if_pos (by omega)]
    · rw [if_neg h2, if_neg (by omega)]
set_option maxHeartbeats 1000000 in
theorem flr_z {v : Int32} {row : Nat → Int32} : row = flr row 0 v := rfl

set_option maxHeartbeats 1000000 in
theorem MI_e {G : Nat × (Nat → Int32)} {lay : Ly} {m0 : Mm} (hN : lay.length ≤ 900) : ∀ m1, (∀ b, b < lay.length → m1 b = m0 b) → rws m1 lay.length [z_, flr z_ 4 (nI 8), flr z_ 128 (-1), flr z_ 128 (-1), flr z_ 768 (-9), z_, z_, z_, z_, z_, flr z_ 144 (-1), z_, z_, z_, z_, z_, z_, z_] → ∀ (u : Option Value), Y G M_mo_init (lay.length + 18, sl_ lay + (24 + (4 + 128 + 128 + 768 + 384 + 12 + 16 + 16 + 16 + 144 + 64 + 2 + 32 + 32 + 32 + 3 + 16))) 237 [some (.ref (lay.length + 0)), u] [] (lay ++ [(10, 24, [some (lay.length + 1), some (lay.length + 2), some (lay.length + 3), some (lay.length + 4), some (lay.length + 5), some (lay.length + 6), none, some (lay.length + 7), some (lay.length + 8), some (lay.length + 9), some (lay.length + 10), some (lay.length + 11), none, some (lay.length + 12), some (lay.length + 13), none, none, some (lay.length + 14), some (lay.length + 15), none, none, none, some (lay.length + 16), some (lay.length + 17)]), (12, 4, []), (12, 128, []), (12, 128, []), (12, 768, []), (13, 384, []), (12, 12, []), (12, 16, []), (12, 16, []), (12, 16, []), (12, 144, []), (12, 64, []), (12, 2, []), (12, 32, []), (12, 32, []), (12, 32, []), (12, 3, []), (12, 16, [])], m1) (pK lay [(10, 24, [some (lay.length + 1), some (lay.length + 2), some (lay.length + 3), some (lay.length + 4), some (lay.length + 5), some (lay.length + 6), none, some (lay.length + 7), some (lay.length + 8), some (lay.length + 9), some (lay.length + 10), some (lay.length + 11), none, some (lay.length + 12), some (lay.length + 13), none, none, some (lay.length + 14), some (lay.length + 15), none, none, none, some (lay.length + 16), some (lay.length + 17)]), (12, 4, []), (12, 128, []), (12, 128, []), (12, 768, []), (13, 384, []), (12, 12, []), (12, 16, []), (12, 16, []), (12, 16, []), (12, 144, []), (12, 64, []), (12, 2, []), (12, 32, []), (12, 32, []), (12, 32, []), (12, 3, []), (12, 16, [])] m0 lay.length [z_, flr z_ 4 (nI 8), flr z_ 128 (-1), flr z_ 128 (-1), flr z_ 768 (-9), z_, z_, z_, z_, z_, flr z_ 144 (-1), z_, ua_ (ua_ z_ 0 (-1)) 1 (-1), z_, z_, z_, z_, z_]) := by
  intro m1 hfr hrw u
  refine Y_aload_n 123 rfl (pc2 := 238) rfl rfl ?_
  refine Y_getR 124 rfl (pc2 := 241) rfl fl_mo_44 (zz_get rfl) (by decide) rfl rfl (by omega) ?_
  refine Y_iconst 125 rfl (pc2 := 242) rfl (v := nI 0) (by decide) ?_
  refine Y_iconst 126 rfl (pc2 := 243) rfl (v := -1) (by decide) ?_
  refine Y_iast 127 rfl (pc2 := 244) rfl (zz_get rfl) rfl (by omega) (by decide) rfl ?_
  refine Y_aload_n 128 rfl (pc2 := 245) rfl rfl ?_
  refine Y_getR 129 rfl (pc2 := 248) rfl fl_mo_44 (zz_get rfl) (by decide) rfl rfl (by omega) ?_
  refine Y_iconst 130 rfl (pc2 := 249) rfl (v := nI 1) (by decide) ?_
  refine Y_iconst 131 rfl (pc2 := 250) rfl (v := -1) (by decide) ?_
  refine Y_iast 132 rfl (pc2 := 251) rfl (zz_get rfl) rfl (by omega) (by decide) rfl ?_
  refine Y_vret 133 rfl rfl ?_
  have h2 := rws_uw (k := 0) (v := -1) _ _ hrw 12 _ rfl
  have h3 := rws_uw (k := 1) (v := -1) _ _ h2 12 _ rfl
  exact ⟨rfl, rfl, fun b hb => by
    show uw_ (uw_ m1 (lay.length + 12) 0 (-1)) (lay.length + 12) 1 (-1) b = m0 b
    rw [← hfr b hb]
    funext k
    rw [uw_ne (by omega), uw_ne (by omega)], h3⟩

set_option maxHeartbeats 1000000 in
theorem MI_4 {G : Nat × (Nat → Int32)} {lay : Ly} {m0 : Mm} (hN : lay.length ≤ 900) : ∀ i, i ≤ 144 → ∀ m1, (∀ b, b < lay.length → m1 b = m0 b) → rws m1 lay.length [z_, flr z_ 4 (nI 8), flr z_ 128 (-1), flr z_ 128 (-1), flr z_ 768 (-9), z_, z_, z_, z_, z_, flr z_ i (-1), z_, z_, z_, z_, z_, z_, z_] → Y G M_mo_init (lay.length + 18, sl_ lay + (24 + (4 + 128 + 128 + 768 + 384 + 12 + 16 + 16 + 16 + 144 + 64 + 2 + 32 + 32 + 32 + 3 + 16))) 217 [some (.ref (lay.length + 0)), some (.int (nI i))] [] (lay ++ [(10, 24, [some (lay.length + 1), some (lay.length + 2), some (lay.length + 3), some (lay.length + 4), some (lay.length + 5), some (lay.length + 6), none, some (lay.length + 7), some (lay.length + 8), some (lay.length + 9), some (lay.length + 10), some (lay.length + 11), none, some (lay.length + 12), some (lay.length + 13), none, none, some (lay.length + 14), some (lay.length + 15), none, none, none, some (lay.length + 16), some (lay.length + 17)]), (12, 4, []), (12, 128, []), (12, 128, []), (12, 768, []), (13, 384, []), (12, 12, []), (12, 16, []), (12, 16, []), (12, 16, []), (12, 144, []), (12, 64, []), (12, 2, []), (12, 32, []), (12, 32, []), (12, 32, []), (12, 3, []), (12, 16, [])], m1) (pK lay [(10, 24, [some (lay.length + 1), some (lay.length + 2), some (lay.length + 3), some (lay.length + 4), some (lay.length + 5), some (lay.length + 6), none, some (lay.length + 7), some (lay.length + 8), some (lay.length + 9), some (lay.length + 10), some (lay.length + 11), none, some (lay.length + 12), some (lay.length + 13), none, none, some (lay.length + 14), some (lay.length + 15), none, none, none, some (lay.length + 16), some (lay.length + 17)]), (12, 4, []), (12, 128, []), (12, 128, []), (12, 768, []), (13, 384, []), (12, 12, []), (12, 16, []), (12, 16, []), (12, 16, []), (12, 144, []), (12, 64, []), (12, 2, []), (12, 32, []), (12, 32, []), (12, 32, []), (12, 3, []), (12, 16, [])] m0 lay.length [z_, flr z_ 4 (nI 8), flr z_ 128 (-1), flr z_ 128 (-1), flr z_ 768 (-9), z_, z_, z_, z_, z_, flr z_ 144 (-1), z_, ua_ (ua_ z_ 0 (-1)) 1 (-1), z_, z_, z_, z_, z_]) := by
  refine ind_ (fun i hi ih m1 hfr hrw => ?_)
  refine Y_iload_n 113 rfl (pc2 := 218) rfl rfl ?_
  refine Y_sipush 114 rfl (pc2 := 221) rfl (v := nI 144) (by decide) ?_
  refine Y_icmp_gen 115 rfl (pc2 := 224) rfl (tgt := 237) (by decide) (by omega) (by omega) (fun h221 => ?_) (fun h221 => ?_)
  · rw [show i = 144 by omega] at hrw
    exact MI_e hN m1 hfr hrw _
  · refine Y_aload_n 116 rfl (pc2 := 225) rfl rfl ?_
    refine Y_getR 117 rfl (pc2 := 228) rfl fl_mo_38 (zz_get rfl) (by decide) rfl rfl (by omega) ?_
    refine Y_iload_n 118 rfl (pc2 := 229) rfl rfl ?_
    refine Y_iconst 119 rfl (pc2 := 230) rfl (v := -1) (by decide) ?_
    refine Y_iast 120 rfl (pc2 := 231) rfl (zz_get rfl) rfl (by omega) (by decide) rfl ?_
    refine Y_iinc 121 rfl (pc2 := 234) rfl rfl (nI_inc _ 1) (ls2 := [some (.ref _), some (.int _)]) rfl ?_
    refine Y_goto 122 rfl (pc2 := 217) (by decide) ?_
    have h2 : rws (uw_ m1 (lay.length + 10) i (-1)) lay.length [z_, flr z_ 4 (nI 8), flr z_ 128 (-1), flr z_ 128 (-1), flr z_ 768 (-9), z_, z_, z_, z_, z_, flr z_ (i + 1) (-1), z_, z_, z_, z_, z_, z_, z_] := by
      have h3 := rws_uw (k := i) (v := -1) _ _ hrw 10 _ rfl
      rw [← flr_ua (i := i)]
      exact h3
    exact ih (i + 1) (by omega) (by omega) _ (fun b hb => (funext fun k => uw_ne (by omega)).trans (hfr b hb)) h2

set_option maxHeartbeats 1000000 in
theorem MI_3 {G : Nat × (Nat → Int32)} {lay : Ly} {m0 : Mm} (hN : lay.length ≤ 900) : ∀ i, i ≤ 768 → ∀ m1, (∀ b, b < lay.length → m1 b = m0 b) → rws m1 lay.length [z_, flr z_ 4 (nI 8), flr z_ 128 (-1), flr z_ 128 (-1), flr z_ i (-9), z_, z_, z_, z_, z_, z_, z_, z_, z_, z_, z_, z_, z_] → Y G M_mo_init (lay.length + 18, sl_ lay + (24 + (4 + 128 + 128 + 768 + 384 + 12 + 16 + 16 + 16 + 144 + 64 + 2 + 32 + 32 + 32 + 3 + 16))) 194 [some (.ref (lay.length + 0)), some (.int (nI i))] [] (lay ++ [(10, 24, [some (lay.length + 1), some (lay.length + 2), some (lay.length + 3), some (lay.length + 4), some (lay.length + 5), some (lay.length + 6), none, some (lay.length + 7), some (lay.length + 8), some (lay.length + 9), some (lay.length + 10), some (lay.length + 11), none, some (lay.length + 12), some (lay.length + 13), none, none, some (lay.length + 14), some (lay.length + 15), none, none, none, some (lay.length + 16), some (lay.length + 17)]), (12, 4, []), (12, 128, []), (12, 128, []), (12, 768, []), (13, 384, []), (12, 12, []), (12, 16, []), (12, 16, []), (12, 16, []), (12, 144, []), (12, 64, []), (12, 2, []), (12, 32, []), (12, 32, []), (12, 32, []), (12, 3, []), (12, 16, [])], m1) (pK lay [(10, 24, [some (lay.length + 1), some (lay.length + 2), some (lay.length + 3), some (lay.length + 4), some (lay.length + 5), some (lay.length + 6), none, some (lay.length + 7), some (lay.length + 8), some (lay.length + 9), some (lay.length + 10), some (lay.length + 11), none, some (lay.length + 12), some (lay.length + 13), none, none, some (lay.length + 14), some (lay.length + 15), none, none, none, some (lay.length + 16), some (lay.length + 17)]), (12, 4, []), (12, 128, []), (12, 128, []), (12, 768, []), (13, 384, []), (12, 12, []), (12, 16, []), (12, 16, []), (12, 16, []), (12, 144, []), (12, 64, []), (12, 2, []), (12, 32, []), (12, 32, []), (12, 32, []), (12, 3, []), (12, 16, [])] m0 lay.length [z_, flr z_ 4 (nI 8), flr z_ 128 (-1), flr z_ 128 (-1), flr z_ 768 (-9), z_, z_, z_, z_, z_, flr z_ 144 (-1), z_, ua_ (ua_ z_ 0 (-1)) 1 (-1), z_, z_, z_, z_, z_]) := by
  refine ind_ (fun i hi ih m1 hfr hrw => ?_)
  refine Y_iload_n 101 rfl (pc2 := 195) rfl rfl ?_
  refine Y_sipush 102 rfl (pc2 := 198) rfl (v := nI 768) (by decide) ?_
  refine Y_icmp_gen 103 rfl (pc2 := 201) rfl (tgt := 215) (by decide) (by omega) (by omega) (fun h198 => ?_) (fun h198 => ?_)
  · refine Y_iconst 111 rfl (pc2 := 216) rfl (v := nI 0) (by decide) ?_
    refine Y_istore_n 112 rfl (pc2 := 217) rfl (Nat.le_of_ble_eq_true rfl) (ls2 := [some (.ref _), some (.int _)]) rfl ?_
    rw [show i = 768 by omega] at hrw
    exact MI_4 hN 0 (Nat.zero_le _) m1 hfr hrw
  · refine Y_aload_n 104 rfl (pc2 := 202) rfl rfl ?_
    refine Y_getR 105 rfl (pc2 := 205) rfl fl_mo_19 (zz_get rfl) (by decide) rfl rfl (by omega) ?_
    refine Y_iload_n 106 rfl (pc2 := 206) rfl rfl ?_
    refine Y_bipush 107 rfl (pc2 := 208) rfl (v := -9) (by decide) ?_
    refine Y_iast 108 rfl (pc2 := 209) rfl (zz_get rfl) rfl (by omega) (by decide) rfl ?_
    refine Y_iinc 109 rfl (pc2 := 212) rfl rfl (nI_inc _ 1) (ls2 := [some (.ref _), some (.int _)]) rfl ?_
    refine Y_goto 110 rfl (pc2 := 194) (by decide) ?_
    have h2 : rws (uw_ m1 (lay.length + 4) i (-9)) lay.length [z_, flr z_ 4 (nI 8), flr z_ 128 (-1), flr z_ 128 (-1), flr z_ (i + 1) (-9), z_, z_, z_, z_, z_, z_, z_, z_, z_, z_, z_, z_, z_] := by
      have h3 := rws_uw (k := i) (v := -9) _ _ hrw 4 _ rfl
      rw [← flr_ua (i := i)]
      exact h3
    exact ih (i + 1) (by omega) (by omega) _ (fun b hb => (funext fun k => uw_ne (by omega)).trans (hfr b hb)) h2

set_option maxHeartbeats 1000000 in
theorem MI_2 {G : Nat × (Nat → Int32)} {lay : Ly} {m0 : Mm} (hN : lay.length ≤ 900) : ∀ i, i ≤ 128 → ∀ m1, (∀ b, b < lay.length → m1 b = m0 b) → rws m1 lay.length [z_, flr z_ 4 (nI 8), flr z_ i (-1), flr z_ i (-1), z_, z_, z_, z_, z_, z_, z_, z_, z_, z_, z_, z_, z_, z_] → Y G M_mo_init (lay.length + 18, sl_ lay + (24 + (4 + 128 + 128 + 768 + 384 + 12 + 16 + 16 + 16 + 144 + 64 + 2 + 32 + 32 + 32 + 3 + 16))) 165 [some (.ref (lay.length + 0)), some (.int (nI i))] [] (lay ++ [(10, 24, [some (lay.length + 1), some (lay.length + 2), some (lay.length + 3), some (lay.length + 4), some (lay.length + 5), some (lay.length + 6), none, some (lay.length + 7), some (lay.length + 8), some (lay.length + 9), some (lay.length + 10), some (lay.length + 11), none, some (lay.length + 12), some (lay.length + 13), none, none, some (lay.length + 14), some (lay.length + 15), none, none, none, some (lay.length + 16), some (lay.length + 17)]), (12, 4, []), (12, 128, []), (12, 128, []), (12, 768, []), (13, 384, []), (12, 12, []), (12, 16, []), (12, 16, []), (12, 16, []), (12, 144, []), (12, 64, []), (12, 2, []), (12, 32, []), (12, 32, []), (12, 32, []), (12, 3, []), (12, 16, [])], m1) (pK lay [(10, 24, [some (lay.length + 1), some (lay.length + 2), some (lay.length + 3), some (lay.length + 4), some (lay.length + 5), some (lay.length + 6), none, some (lay.length + 7), some (lay.length + 8), some (lay.length + 9), some (lay.length + 10), some (lay.length + 11), none, some (lay.length + 12), some (lay.length + 13), none, none, some (lay.length + 14), some (lay.length + 15), none, none, none, some (lay.length + 16), some (lay.length + 17)]), (12, 4, []), (12, 128, []), (12, 128, []), (12, 768, []), (13, 384, []), (12, 12, []), (12, 16, []), (12, 16, []), (12, 16, []), (12, 144, []), (12, 64, []), (12, 2, []), (12, 32, []), (12, 32, []), (12, 32, []), (12, 3, []), (12, 16, [])] m0 lay.length [z_, flr z_ 4 (nI 8), flr z_ 128 (-1), flr z_ 128 (-1), flr z_ 768 (-9), z_, z_, z_, z_, z_, flr z_ 144 (-1), z_, ua_ (ua_ z_ 0 (-1)) 1 (-1), z_, z_, z_, z_, z_]) := by
  refine ind_ (fun i hi ih m1 hfr hrw => ?_)
  refine Y_iload_n 84 rfl (pc2 := 166) rfl rfl ?_
  refine Y_sipush 85 rfl (pc2 := 169) rfl (v := nI 128) (by decide) ?_
  refine Y_icmp_gen 86 rfl (pc2 := 172) rfl (tgt := 192) (by decide) (by omega) (by omega) (fun h169 => ?_) (fun h169 => ?_)
  · refine Y_iconst 99 rfl (pc2 := 193) rfl (v := nI 0) (by decide) ?_
    refine Y_istore_n 100 rfl (pc2 := 194) rfl (Nat.le_of_ble_eq_true rfl) (ls2 := [some (.ref _), some (.int _)]) rfl ?_
    rw [show i = 128 by omega] at hrw
    exact MI_3 hN 0 (Nat.zero_le _) m1 hfr hrw
  · refine Y_aload_n 87 rfl (pc2 := 173) rfl rfl ?_
    refine Y_getR 88 rfl (pc2 := 176) rfl fl_mo_13 (zz_get rfl) (by decide) rfl rfl (by omega) ?_
    refine Y_iload_n 89 rfl (pc2 := 177) rfl rfl ?_
    refine Y_iconst 90 rfl (pc2 := 178) rfl (v := -1) (by decide) ?_
    refine Y_iast 91 rfl (pc2 := 179) rfl (zz_get rfl) rfl (by omega) (by decide) rfl ?_
    refine Y_aload_n 92 rfl (pc2 := 180) rfl rfl ?_
    refine Y_getR 93 rfl (pc2 := 183) rfl fl_mo_16 (zz_get rfl) (by decide) rfl rfl (by omega) ?_
    refine Y_iload_n 94 rfl (pc2 := 184) rfl rfl ?_
    refine Y_iconst 95 rfl (pc2 := 185) rfl (v := -1) (by decide) ?_
    refine Y_iast 96 rfl (pc2 := 186) rfl (zz_get rfl) rfl (by omega) (by decide) rfl ?_
    refine Y_iinc 97 rfl (pc2 := 189) rfl rfl (nI_inc _ 1) (ls2 := [some (.ref _), some (.int _)]) rfl ?_
    refine Y_goto 98 rfl (pc2 := 165) (by decide) ?_
    have h2 : rws (uw_ (uw_ m1 (lay.length + 2) i (-1)) (lay.length + 3) i (-1)) lay.length [z_, flr z_ 4 (nI 8), flr z_ (i + 1) (-1), flr z_ (i + 1) (-1), z_, z_, z_, z_, z_, z_, z_, z_, z_, z_, z_, z_, z_, z_] := by
      have h3 := rws_uw (k := i) (v := -1) _ _ hrw 2 _ rfl
      have h4 := rws_uw (k := i) (v := -1) _ _ h3 3 _ rfl
      rw [← flr_ua (i := i)]
      exact h4
    exact ih (i + 1) (by omega) (by omega) _ (fun b hb => (funext fun k => by rw [uw_ne (by omega), uw_ne (by omega)]).trans (hfr b hb)) h2

set_option maxHeartbeats 1000000 in
theorem MI_1 {G : Nat × (Nat → Int32)} {lay : Ly} {m0 : Mm} (hN : lay.length ≤ 900) : ∀ i, i ≤ 4 → ∀ m1, (∀ b, b < lay.length → m1 b = m0 b) → rws m1 lay.length [z_, flr z_ i (nI 8), z_, z_, z_, z_, z_, z_, z_, z_, z_, z_, z_, z_, z_, z_, z_, z_] → Y G M_mo_init (lay.length + 18, sl_ lay + (24 + (4 + 128 + 128 + 768 + 384 + 12 + 16 + 16 + 16 + 144 + 64 + 2 + 32 + 32 + 32 + 3 + 16))) 144 [some (.ref (lay.length + 0)), some (.int (nI i))] [] (lay ++ [(10, 24, [some (lay.length + 1), some (lay.length + 2), some (lay.length + 3), some (lay.length + 4), some (lay.length + 5), some (lay.length + 6), none, some (lay.length + 7), some (lay.length + 8), some (lay.length + 9), some (lay.length + 10), some (lay.length + 11), none, some (lay.length + 12), some (lay.length + 13), none, none, some (lay.length + 14), some (lay.length + 15), none, none, none, some (lay.length + 16), some (lay.length + 17)]), (12, 4, []), (12, 128, []), (12, 128, []), (12, 768, []), (13, 384, []), (12, 12, []), (12, 16, []), (12, 16, []), (12, 16, []), (12, 144, []), (12, 64, []), (12, 2, []), (12, 32, []), (12, 32, []), (12, 32, []), (12, 3, []), (12, 16, [])], m1) (pK lay [(10, 24, [some (lay.length + 1), some (lay.length + 2), some (lay.length + 3), some (lay.length + 4), some (lay.length + 5), some (lay.length + 6), none, some (lay.length + 7), some (lay.length + 8), some (lay.length + 9), some (lay.length + 10), some (lay.length + 11), none, some (lay.length + 12), some (lay.length + 13), none, none, some (lay.length + 14), some (lay.length + 15), none, none, none, some (lay.length + 16), some (lay.length + 17)]), (12, 4, []), (12, 128, []), (12, 128, []), (12, 768, []), (13, 384, []), (12, 12, []), (12, 16, []), (12, 16, []), (12, 16, []), (12, 144, []), (12, 64, []), (12, 2, []), (12, 32, []), (12, 32, []), (12, 32, []), (12, 3, []), (12, 16, [])] m0 lay.length [z_, flr z_ 4 (nI 8), flr z_ 128 (-1), flr z_ 128 (-1), flr z_ 768 (-9), z_, z_, z_, z_, z_, flr z_ 144 (-1), z_, ua_ (ua_ z_ 0 (-1)) 1 (-1), z_, z_, z_, z_, z_]) := by
  refine ind_ (fun i hi ih m1 hfr hrw => ?_)
  refine Y_iload_n 72 rfl (pc2 := 145) rfl rfl ?_
  refine Y_iconst 73 rfl (pc2 := 146) rfl (v := nI 4) (by decide) ?_
  refine Y_icmp_gen 74 rfl (pc2 := 149) rfl (tgt := 163) (by decide) (by omega) (by omega) (fun h146 => ?_) (fun h146 => ?_)
  · refine Y_iconst 82 rfl (pc2 := 164) rfl (v := nI 0) (by decide) ?_
    refine Y_istore_n 83 rfl (pc2 := 165) rfl (Nat.le_of_ble_eq_true rfl) (ls2 := [some (.ref _), some (.int _)]) rfl ?_
    rw [show i = 4 by omega] at hrw
    exact MI_2 hN 0 (Nat.zero_le _) m1 hfr hrw
  · refine Y_aload_n 75 rfl (pc2 := 150) rfl rfl ?_
    refine Y_getR 76 rfl (pc2 := 153) rfl fl_mo_7 (zz_get rfl) (by decide) rfl rfl (by omega) ?_
    refine Y_iload_n 77 rfl (pc2 := 154) rfl rfl ?_
    refine Y_bipush 78 rfl (pc2 := 156) rfl (v := nI 8) (by decide) ?_
    refine Y_iast 79 rfl (pc2 := 157) rfl (zz_get rfl) rfl (by omega) (by decide) rfl ?_
    refine Y_iinc 80 rfl (pc2 := 160) rfl rfl (nI_inc _ 1) (ls2 := [some (.ref _), some (.int _)]) rfl ?_
    refine Y_goto 81 rfl (pc2 := 144) (by decide) ?_
    have h2 : rws (uw_ m1 (lay.length + 1) i (nI 8)) lay.length [z_, flr z_ (i + 1) (nI 8), z_, z_, z_, z_, z_, z_, z_, z_, z_, z_, z_, z_, z_, z_, z_, z_] := by
      have h3 := rws_uw (k := i) (v := nI 8) _ _ hrw 1 _ rfl
      rw [← flr_ua (i := i)]
      exact h3
    exact ih (i + 1) (by omega) (by omega) _ (fun b hb => (funext fun k => uw_ne (by omega)).trans (hfr b hb)) h2

set_option maxHeartbeats 1000000 in
theorem K_mo_init {G : Nat × (Nat → Int32)} {lay : Ly} {mm : Mm} {n : Nat} (hn : lay.length = n) (hN : n ≤ 900) (hz0 : mm n = z_) : Y G M_mo_init (n + 18, sl_ lay + (24 + (4 + 128 + 128 + 768 + 384 + 12 + 16 + 16 + 16 + 144 + 64 + 2 + 32 + 32 + 32 + 3 + 16))) 0 (en_ M_mo_init [.ref n]) [] (lay ++ [(10, 24, [none, none, none, none, none, none, none, none, none, none, none, none, none, none, none, none, none, none, none, none, none, none, none, none])], mm) (pK lay [(10, 24, [some (n + 1), some (n + 2), some (n + 3), some (n + 4), some (n + 5), some (n + 6), none, some (n + 7), some (n + 8), some (n + 9), some (n + 10), some (n + 11), none, some (n + 12), some (n + 13), none, none, some (n + 14), some (n + 15), none, none, none, some (n + 16), some (n + 17)]), (12, 4, []), (12, 128, []), (12, 128, []), (12, 768, []), (13, 384, []), (12, 12, []), (12, 16, []), (12, 16, []), (12, 16, []), (12, 144, []), (12, 64, []), (12, 2, []), (12, 32, []), (12, 32, []), (12, 32, []), (12, 3, []), (12, 16, [])] mm n [z_, flr z_ 4 (nI 8), flr z_ 128 (-1), flr z_ 128 (-1), flr z_ 768 (-9), z_, z_, z_, z_, z_, flr z_ 144 (-1), z_, ua_ (ua_ z_ 0 (-1)) 1 (-1), z_, z_, z_, z_, z_]) := by
  subst hn
  change Y _ _ _ _ [some (.ref (lay.length + 0)), none] _ _ _
  refine Y_aload_n 0 rfl (pc2 := 1) rfl rfl ?_
  refine Y_objInit 1 rfl (pc2 := 4) rfl lk_mo_1 jd_oi jd_oc (by omega) (by decide) (Nat.le_of_ble_eq_true rfl) ?_
  refine Y_aload_n 2 rfl (pc2 := 5) rfl rfl ?_
  refine Y_iconst 3 rfl (pc2 := 6) rfl (v := nI 4) (by decide) ?_
  refine Y_znewa_i 4 rfl (pc2 := 8) rfl rfl (by omega) (zl := 1) rfl (by dsimp only; omega) (by simp only [sl_, List.map, List.sum_cons, List.sum_nil]; omega) (by omega) (Z2 := [(10, 24, [none, none, none, none, none, none, none, none, none, none, none, none, none, none, none, none, none, none, none, none, none, none, none, none]), (12, 4, [])]) rfl ?_
  refine Y_zputR 5 rfl (pc2 := 11) rfl fl_mo_7 rfl (by decide) (Nat.le_of_ble_eq_true rfl) (by omega) (Or.inr ⟨_, rfl⟩) ⟨_, _, _, rfl, rfl, rfl⟩ rfl rfl (Z2 := [(10, 24, [some (lay.length + 1), none, none, none, none, none, none, none, none, none, none, none, none, none, none, none, none, none, none, none, none, none, none, none]), (12, 4, [])]) rfl ?_
  refine Y_aload_n 6 rfl (pc2 := 12) rfl rfl ?_
  refine Y_sipush 7 rfl (pc2 := 15) rfl (v := nI 128) (by decide) ?_
  refine Y_znewa_i 8 rfl (pc2 := 17) rfl rfl (by omega) (zl := 2) rfl (by dsimp only; omega) (by simp only [sl_, List.map, List.sum_cons, List.sum_nil]; omega) (by omega) (Z2 := [(10, 24, [some (lay.length + 1), none, none, none, none, none, none, none, none, none, none, none, none, none, none, none, none, none, none, none, none, none, none, none]), (12, 4, []), (12, 128, [])]) rfl ?_
  refine Y_zputR 9 rfl (pc2 := 20) rfl fl_mo_13 rfl (by decide) (Nat.le_of_ble_eq_true rfl) (by omega) (Or.inr ⟨_, rfl⟩) ⟨_, _, _, rfl, rfl, rfl⟩ rfl rfl (Z2 := [(10, 24, [some (lay.length + 1), some (lay.length + 2), none, none, none, none, none, none, none, none, none, none, none, none, none, none, none, none, none, none, none, none, none, none]), (12, 4, []), (12, 128, [])]) rfl ?_
  refine Y_aload_n 10 rfl (pc2 := 21) rfl rfl ?_
  refine Y_sipush 11 rfl (pc2 := 24) rfl (v := nI 128) (by decide) ?_
  refine Y_znewa_i 12 rfl (pc2 := 26) rfl rfl (by omega) (zl := 3) rfl (by dsimp only; omega) (by simp only [sl_, List.map, List.sum_cons, List.sum_nil]; omega) (by omega) (Z2 := [(10, 24, [some (lay.length + 1), some (lay.length + 2), none, none, none, none, none, none, none, none, none, none, none, none, none, none, none, none, none, none, none, none, none, none]), (12, 4, []), (12, 128, []), (12, 128, [])]) rfl ?_
  refine Y_zputR 13 rfl (pc2 := 29) rfl fl_mo_16 rfl (by decide) (Nat.le_of_ble_eq_true rfl) (by omega) (Or.inr ⟨_, rfl⟩) ⟨_, _, _, rfl, rfl, rfl⟩ rfl rfl (Z2 := [(10, 24, [some (lay.length + 1), some (lay.length + 2), some (lay.length + 3), none, none, none, none, none, none, none, none, none, none, none, none, none, none, none, none, none, none, none, none, none]), (12, 4, []), (12, 128, []), (12, 128, [])]) rfl ?_
  refine Y_aload_n 14 rfl (pc2 := 30) rfl rfl ?_
  refine Y_sipush 15 rfl (pc2 := 33) rfl (v := nI 768) (by decide) ?_
  refine Y_znewa_i 16 rfl (pc2 := 35) rfl rfl (by omega) (zl := 4) rfl (by dsimp only; omega) (by simp only [sl_, List.map, List.sum_cons, List.sum_nil]; omega) (by omega) (Z2 := [(10, 24, [some (lay.length + 1), some (lay.length + 2), some (lay.length + 3), none, none, none, none, none, none, none, none, none, none, none, none, none, none, none, none, none, none, none, none, none]), (12, 4, []), (12, 128, []), (12, 128, []), (12, 768, [])]) rfl ?_
  refine Y_zputR 17 rfl (pc2 := 38) rfl fl_mo_19 rfl (by decide) (Nat.le_of_ble_eq_true rfl) (by omega) (Or.inr ⟨_, rfl⟩) ⟨_, _, _, rfl, rfl, rfl⟩ rfl rfl (Z2 := [(10, 24, [some (lay.length + 1), some (lay.length + 2), some (lay.length + 3), some (lay.length + 4), none, none, none, none, none, none, none, none, none, none, none, none, none, none, none, none, none, none, none, none]), (12, 4, []), (12, 128, []), (12, 128, []), (12, 768, [])]) rfl ?_
  refine Y_aload_n 18 rfl (pc2 := 39) rfl rfl ?_
  refine Y_sipush 19 rfl (pc2 := 42) rfl (v := nI 384) (by decide) ?_
  refine Y_znewa_z 20 rfl (pc2 := 44) rfl rfl (by omega) (zl := 5) rfl (by dsimp only; omega) (by simp only [sl_, List.map, List.sum_cons, List.sum_nil]; omega) (by omega) (Z2 := [(10, 24, [some (lay.length + 1), some (lay.length + 2), some (lay.length + 3), some (lay.length + 4), none, none, none, none, none, none, none, none, none, none, none, none, none, none, none, none, none, none, none, none]), (12, 4, []), (12, 128, []), (12, 128, []), (12, 768, []), (13, 384, [])]) rfl ?_
  refine Y_zputR 21 rfl (pc2 := 47) rfl fl_mo_22 rfl (by decide) (Nat.le_of_ble_eq_true rfl) (by omega) (Or.inr ⟨_, rfl⟩) ⟨_, _, _, rfl, rfl, rfl⟩ rfl rfl (Z2 := [(10, 24, [some (lay.length + 1), some (lay.length + 2), some (lay.length + 3), some (lay.length + 4), some (lay.length + 5), none, none, none, none, none, none, none, none, none, none, none, none, none, none, none, none, none, none, none]), (12, 4, []), (12, 128, []), (12, 128, []), (12, 768, []), (13, 384, [])]) rfl ?_
  refine Y_aload_n 22 rfl (pc2 := 48) rfl rfl ?_
  refine Y_bipush 23 rfl (pc2 := 50) rfl (v := nI 12) (by decide) ?_
  refine Y_znewa_i 24 rfl (pc2 := 52) rfl rfl (by omega) (zl := 6) rfl (by dsimp only; omega) (by simp only [sl_, List.map, List.sum_cons, List.sum_nil]; omega) (by omega) (Z2 := [(10, 24, [some (lay.length + 1), some (lay.length + 2), some (lay.length + 3), some (lay.length + 4), some (lay.length + 5), none, none, none, none, none, none, none, none, none, none, none, none, none, none, none, none, none, none, none]), (12, 4, []), (12, 128, []), (12, 128, []), (12, 768, []), (13, 384, []), (12, 12, [])]) rfl ?_
  refine Y_zputR 25 rfl (pc2 := 55) rfl fl_mo_26 rfl (by decide) (Nat.le_of_ble_eq_true rfl) (by omega) (Or.inr ⟨_, rfl⟩) ⟨_, _, _, rfl, rfl, rfl⟩ rfl rfl (Z2 := [(10, 24, [some (lay.length + 1), some (lay.length + 2), some (lay.length + 3), some (lay.length + 4), some (lay.length + 5), some (lay.length + 6), none, none, none, none, none, none, none, none, none, none, none, none, none, none, none, none, none, none]), (12, 4, []), (12, 128, []), (12, 128, []), (12, 768, []), (13, 384, []), (12, 12, [])]) rfl ?_
  refine Y_aload_n 26 rfl (pc2 := 56) rfl rfl ?_
  refine Y_bipush 27 rfl (pc2 := 58) rfl (v := nI 16) (by decide) ?_
  refine Y_znewa_i 28 rfl (pc2 := 60) rfl rfl (by omega) (zl := 7) rfl (by dsimp only; omega) (by simp only [sl_, List.map, List.sum_cons, List.sum_nil]; omega) (by omega) (Z2 := [(10, 24, [some (lay.length + 1), some (lay.length + 2), some (lay.length + 3), some (lay.length + 4), some (lay.length + 5), some (lay.length + 6), none, none, none, none, none, none, none, none, none, none, none, none, none, none, none, none, none, none]), (12, 4, []), (12, 128, []), (12, 128, []), (12, 768, []), (13, 384, []), (12, 12, []), (12, 16, [])]) rfl ?_
  refine Y_zputR 29 rfl (pc2 := 63) rfl fl_mo_29 rfl (by decide) (Nat.le_of_ble_eq_true rfl) (by omega) (Or.inr ⟨_, rfl⟩) ⟨_, _, _, rfl, rfl, rfl⟩ rfl rfl (Z2 := [(10, 24, [some (lay.length + 1), some (lay.length + 2), some (lay.length + 3), some (lay.length + 4), some (lay.length + 5), some (lay.length + 6), none, some (lay.length + 7), none, none, none, none, none, none, none, none, none, none, none, none, none, none, none, none]), (12, 4, []), (12, 128, []), (12, 128, []), (12, 768, []), (13, 384, []), (12, 12, []), (12, 16, [])]) rfl ?_
  refine Y_aload_n 30 rfl (pc2 := 64) rfl rfl ?_
  refine Y_bipush 31 rfl (pc2 := 66) rfl (v := nI 16) (by decide) ?_
  refine Y_znewa_i 32 rfl (pc2 := 68) rfl rfl (by omega) (zl := 8) rfl (by dsimp only; omega) (by simp only [sl_, List.map, List.sum_cons, List.sum_nil]; omega) (by omega) (Z2 := [(10, 24, [some (lay.length + 1), some (lay.length + 2), some (lay.length + 3), some (lay.length + 4), some (lay.length + 5), some (lay.length + 6), none, some (lay.length + 7), none, none, none, none, none, none, none, none, none, none, none, none, none, none, none, none]), (12, 4, []), (12, 128, []), (12, 128, []), (12, 768, []), (13, 384, []), (12, 12, []), (12, 16, []), (12, 16, [])]) rfl ?_
  refine Y_zputR 33 rfl (pc2 := 71) rfl fl_mo_32 rfl (by decide) (Nat.le_of_ble_eq_true rfl) (by omega) (Or.inr ⟨_, rfl⟩) ⟨_, _, _, rfl, rfl, rfl⟩ rfl rfl (Z2 := [(10, 24, [some (lay.length + 1), some (lay.length + 2), some (lay.length + 3), some (lay.length + 4), some (lay.length + 5), some (lay.length + 6), none, some (lay.length + 7), some (lay.length + 8), none, none, none, none, none, none, none, none, none, none, none, none, none, none, none]), (12, 4, []), (12, 128, []), (12, 128, []), (12, 768, []), (13, 384, []), (12, 12, []), (12, 16, []), (12, 16, [])]) rfl ?_
  refine Y_aload_n 34 rfl (pc2 := 72) rfl rfl ?_
  refine Y_bipush 35 rfl (pc2 := 74) rfl (v := nI 16) (by decide) ?_
  refine Y_znewa_i 36 rfl (pc2 := 76) rfl rfl (by omega) (zl := 9) rfl (by dsimp only; omega) (by simp only [sl_, List.map, List.sum_cons, List.sum_nil]; omega) (by omega) (Z2 := [(10, 24, [some (lay.length + 1), some (lay.length + 2), some (lay.length + 3), some (lay.length + 4), some (lay.length + 5), some (lay.length + 6), none, some (lay.length + 7), some (lay.length + 8), none, none, none, none, none, none, none, none, none, none, none, none, none, none, none]), (12, 4, []), (12, 128, []), (12, 128, []), (12, 768, []), (13, 384, []), (12, 12, []), (12, 16, []), (12, 16, []), (12, 16, [])]) rfl ?_
  refine Y_zputR 37 rfl (pc2 := 79) rfl fl_mo_35 rfl (by decide) (Nat.le_of_ble_eq_true rfl) (by omega) (Or.inr ⟨_, rfl⟩) ⟨_, _, _, rfl, rfl, rfl⟩ rfl rfl (Z2 := [(10, 24, [some (lay.length + 1), some (lay.length + 2), some (lay.length + 3), some (lay.length + 4), some (lay.length + 5), some (lay.length + 6), none, some (lay.length + 7), some (lay.length + 8), some (lay.length + 9), none, none, none, none, none, none, none, none, none, none, none, none, none, none]), (12, 4, []), (12, 128, []), (12, 128, []), (12, 768, []), (13, 384, []), (12, 12, []), (12, 16, []), (12, 16, []), (12, 16, [])]) rfl ?_
  refine Y_aload_n 38 rfl (pc2 := 80) rfl rfl ?_
  refine Y_sipush 39 rfl (pc2 := 83) rfl (v := nI 144) (by decide) ?_
  refine Y_znewa_i 40 rfl (pc2 := 85) rfl rfl (by omega) (zl := 10) rfl (by dsimp only; omega) (by simp only [sl_, List.map, List.sum_cons, List.sum_nil]; omega) (by omega) (Z2 := [(10, 24, [some (lay.length + 1), some (lay.length + 2), some (lay.length + 3), some (lay.length + 4), some (lay.length + 5), some (lay.length + 6), none, some (lay.length + 7), some (lay.length + 8), some (lay.length + 9), none, none, none, none, none, none, none, none, none, none, none, none, none, none]), (12, 4, []), (12, 128, []), (12, 128, []), (12, 768, []), (13, 384, []), (12, 12, []), (12, 16, []), (12, 16, []), (12, 16, []), (12, 144, [])]) rfl ?_
  refine Y_zputR 41 rfl (pc2 := 88) rfl fl_mo_38 rfl (by decide) (Nat.le_of_ble_eq_true rfl) (by omega) (Or.inr ⟨_, rfl⟩) ⟨_, _, _, rfl, rfl, rfl⟩ rfl rfl (Z2 := [(10, 24, [some (lay.length + 1), some (lay.length + 2), some (lay.length + 3), some (lay.length + 4), some (lay.length + 5), some (lay.length + 6), none, some (lay.length + 7), some (lay.length + 8), some (lay.length + 9), some (lay.length + 10), none, none, none, none, none, none, none, none, none, none, none, none, none]), (12, 4, []), (12, 128, []), (12, 128, []), (12, 768, []), (13, 384, []), (12, 12, []), (12, 16, []), (12, 16, []), (12, 16, []), (12, 144, [])]) rfl ?_
  refine Y_aload_n 42 rfl (pc2 := 89) rfl rfl ?_
  refine Y_bipush 43 rfl (pc2 := 91) rfl (v := nI 64) (by decide) ?_
  refine Y_znewa_i 44 rfl (pc2 := 93) rfl rfl (by omega) (zl := 11) rfl (by dsimp only; omega) (by simp only [sl_, List.map, List.sum_cons, List.sum_nil]; omega) (by omega) (Z2 := [(10, 24, [some (lay.length + 1), some (lay.length + 2), some (lay.length + 3), some (lay.length + 4), some (lay.length + 5), some (lay.length + 6), none, some (lay.length + 7), some (lay.length + 8), some (lay.length + 9), some (lay.length + 10), none, none, none, none, none, none, none, none, none, none, none, none, none]), (12, 4, []), (12, 128, []), (12, 128, []), (12, 768, []), (13, 384, []), (12, 12, []), (12, 16, []), (12, 16, []), (12, 16, []), (12, 144, []), (12, 64, [])]) rfl ?_
  refine Y_zputR 45 rfl (pc2 := 96) rfl fl_mo_41 rfl (by decide) (Nat.le_of_ble_eq_true rfl) (by omega) (Or.inr ⟨_, rfl⟩) ⟨_, _, _, rfl, rfl, rfl⟩ rfl rfl (Z2 := [(10, 24, [some (lay.length + 1), some (lay.length + 2), some (lay.length + 3), some (lay.length + 4), some (lay.length + 5), some (lay.length + 6), none, some (lay.length + 7), some (lay.length + 8), some (lay.length + 9), some (lay.length + 10), some (lay.length + 11), none, none, none, none, none, none, none, none, none, none, none, none]), (12, 4, []), (12, 128, []), (12, 128, []), (12, 768, []), (13, 384, []), (12, 12, []), (12, 16, []), (12, 16, []), (12, 16, []), (12, 144, []), (12, 64, [])]) rfl ?_
  refine Y_aload_n 46 rfl (pc2 := 97) rfl rfl ?_
  refine Y_iconst 47 rfl (pc2 := 98) rfl (v := nI 2) (by decide) ?_
  refine Y_znewa_i 48 rfl (pc2 := 100) rfl rfl (by omega) (zl := 12) rfl (by dsimp only; omega) (by simp only [sl_, List.map, List.sum_cons, List.sum_nil]; omega) (by omega) (Z2 := [(10, 24, [some (lay.length + 1), some (lay.length + 2), some (lay.length + 3), some (lay.length + 4), some (lay.length + 5), some (lay.length + 6), none, some (lay.length + 7), some (lay.length + 8), some (lay.length + 9), some (lay.length + 10), some (lay.length + 11), none, none, none, none, none, none, none, none, none, none, none, none]), (12, 4, []), (12, 128, []), (12, 128, []), (12, 768, []), (13, 384, []), (12, 12, []), (12, 16, []), (12, 16, []), (12, 16, []), (12, 144, []), (12, 64, []), (12, 2, [])]) rfl ?_
  refine Y_zputR 49 rfl (pc2 := 103) rfl fl_mo_44 rfl (by decide) (Nat.le_of_ble_eq_true rfl) (by omega) (Or.inr ⟨_, rfl⟩) ⟨_, _, _, rfl, rfl, rfl⟩ rfl rfl (Z2 := [(10, 24, [some (lay.length + 1), some (lay.length + 2), some (lay.length + 3), some (lay.length + 4), some (lay.length + 5), some (lay.length + 6), none, some (lay.length + 7), some (lay.length + 8), some (lay.length + 9), some (lay.length + 10), some (lay.length + 11), none, some (lay.length + 12), none, none, none, none, none, none, none, none, none, none]), (12, 4, []), (12, 128, []), (12, 128, []), (12, 768, []), (13, 384, []), (12, 12, []), (12, 16, []), (12, 16, []), (12, 16, []), (12, 144, []), (12, 64, []), (12, 2, [])]) rfl ?_
  refine Y_aload_n 50 rfl (pc2 := 104) rfl rfl ?_
  refine Y_bipush 51 rfl (pc2 := 106) rfl (v := nI 32) (by decide) ?_
  refine Y_znewa_i 52 rfl (pc2 := 108) rfl rfl (by omega) (zl := 13) rfl (by dsimp only; omega) (by simp only [sl_, List.map, List.sum_cons, List.sum_nil]; omega) (by omega) (Z2 := [(10, 24, [some (lay.length + 1), some (lay.length + 2), some (lay.length + 3), some (lay.length + 4), some (lay.length + 5), some (lay.length + 6), none, some (lay.length + 7), some (lay.length + 8), some (lay.length + 9), some (lay.length + 10), some (lay.length + 11), none, some (lay.length + 12), none, none, none, none, none, none, none, none, none, none]), (12, 4, []), (12, 128, []), (12, 128, []), (12, 768, []), (13, 384, []), (12, 12, []), (12, 16, []), (12, 16, []), (12, 16, []), (12, 144, []), (12, 64, []), (12, 2, []), (12, 32, [])]) rfl ?_
  refine Y_zputR 53 rfl (pc2 := 111) rfl fl_mo_47 rfl (by decide) (Nat.le_of_ble_eq_true rfl) (by omega) (Or.inr ⟨_, rfl⟩) ⟨_, _, _, rfl, rfl, rfl⟩ rfl rfl (Z2 := [(10, 24, [some (lay.length + 1), some (lay.length + 2), some (lay.length + 3), some (lay.length + 4), some (lay.length + 5), some (lay.length + 6), none, some (lay.length + 7), some (lay.length + 8), some (lay.length + 9), some (lay.length + 10), some (lay.length + 11), none, some (lay.length + 12), some (lay.length + 13), none, none, none, none, none, none, none, none, none]), (12, 4, []), (12, 128, []), (12, 128, []), (12, 768, []), (13, 384, []), (12, 12, []), (12, 16, []), (12, 16, []), (12, 16, []), (12, 144, []), (12, 64, []), (12, 2, []), (12, 32, [])]) rfl ?_
  refine Y_aload_n 54 rfl (pc2 := 112) rfl rfl ?_
  refine Y_bipush 55 rfl (pc2 := 114) rfl (v := nI 32) (by decide) ?_
  refine Y_znewa_i 56 rfl (pc2 := 116) rfl rfl (by omega) (zl := 14) rfl (by dsimp only; omega) (by simp only [sl_, List.map, List.sum_cons, List.sum_nil]; omega) (by omega) (Z2 := [(10, 24, [some (lay.length + 1), some (lay.length + 2), some (lay.length + 3), some (lay.length + 4), some (lay.length + 5), some (lay.length + 6), none, some (lay.length + 7), some (lay.length + 8), some (lay.length + 9), some (lay.length + 10), some (lay.length + 11), none, some (lay.length + 12), some (lay.length + 13), none, none, none, none, none, none, none, none, none]), (12, 4, []), (12, 128, []), (12, 128, []), (12, 768, []), (13, 384, []), (12, 12, []), (12, 16, []), (12, 16, []), (12, 16, []), (12, 144, []), (12, 64, []), (12, 2, []), (12, 32, []), (12, 32, [])]) rfl ?_
  refine Y_zputR 57 rfl (pc2 := 119) rfl fl_mo_50 rfl (by decide) (Nat.le_of_ble_eq_true rfl) (by omega) (Or.inr ⟨_, rfl⟩) ⟨_, _, _, rfl, rfl, rfl⟩ rfl rfl (Z2 := [(10, 24, [some (lay.length + 1), some (lay.length + 2), some (lay.length + 3), some (lay.length + 4), some (lay.length + 5), some (lay.length + 6), none, some (lay.length + 7), some (lay.length + 8), some (lay.length + 9), some (lay.length + 10), some (lay.length + 11), none, some (lay.length + 12), some (lay.length + 13), none, none, some (lay.length + 14), none, none, none, none, none, none]), (12, 4, []), (12, 128, []), (12, 128, []), (12, 768, []), (13, 384, []), (12, 12, []), (12, 16, []), (12, 16, []), (12, 16, []), (12, 144, []), (12, 64, []), (12, 2, []), (12, 32, []), (12, 32, [])]) rfl ?_
  refine Y_aload_n 58 rfl (pc2 := 120) rfl rfl ?_
  refine Y_bipush 59 rfl (pc2 := 122) rfl (v := nI 32) (by decide) ?_
  refine Y_znewa_i 60 rfl (pc2 := 124) rfl rfl (by omega) (zl := 15) rfl (by dsimp only; omega) (by simp only [sl_, List.map, List.sum_cons, List.sum_nil]; omega) (by omega) (Z2 := [(10, 24, [some (lay.length + 1), some (lay.length + 2), some (lay.length + 3), some (lay.length + 4), some (lay.length + 5), some (lay.length + 6), none, some (lay.length + 7), some (lay.length + 8), some (lay.length + 9), some (lay.length + 10), some (lay.length + 11), none, some (lay.length + 12), some (lay.length + 13), none, none, some (lay.length + 14), none, none, none, none, none, none]), (12, 4, []), (12, 128, []), (12, 128, []), (12, 768, []), (13, 384, []), (12, 12, []), (12, 16, []), (12, 16, []), (12, 16, []), (12, 144, []), (12, 64, []), (12, 2, []), (12, 32, []), (12, 32, []), (12, 32, [])]) rfl ?_
  refine Y_zputR 61 rfl (pc2 := 127) rfl fl_mo_53 rfl (by decide) (Nat.le_of_ble_eq_true rfl) (by omega) (Or.inr ⟨_, rfl⟩) ⟨_, _, _, rfl, rfl, rfl⟩ rfl rfl (Z2 := [(10, 24, [some (lay.length + 1), some (lay.length + 2), some (lay.length + 3), some (lay.length + 4), some (lay.length + 5), some (lay.length + 6), none, some (lay.length + 7), some (lay.length + 8), some (lay.length + 9), some (lay.length + 10), some (lay.length + 11), none, some (lay.length + 12), some (lay.length + 13), none, none, some (lay.length + 14), some (lay.length + 15), none, none, none, none, none]), (12, 4, []), (12, 128, []), (12, 128, []), (12, 768, []), (13, 384, []), (12, 12, []), (12, 16, []), (12, 16, []), (12, 16, []), (12, 144, []), (12, 64, []), (12, 2, []), (12, 32, []), (12, 32, []), (12, 32, [])]) rfl ?_
  refine Y_aload_n 62 rfl (pc2 := 128) rfl rfl ?_
  refine Y_iconst 63 rfl (pc2 := 129) rfl (v := nI 3) (by decide) ?_
  refine Y_znewa_i 64 rfl (pc2 := 131) rfl rfl (by omega) (zl := 16) rfl (by dsimp only; omega) (by simp only [sl_, List.map, List.sum_cons, List.sum_nil]; omega) (by omega) (Z2 := [(10, 24, [some (lay.length + 1), some (lay.length + 2), some (lay.length + 3), some (lay.length + 4), some (lay.length + 5), some (lay.length + 6), none, some (lay.length + 7), some (lay.length + 8), some (lay.length + 9), some (lay.length + 10), some (lay.length + 11), none, some (lay.length + 12), some (lay.length + 13), none, none, some (lay.length + 14), some (lay.length + 15), none, none, none, none, none]), (12, 4, []), (12, 128, []), (12, 128, []), (12, 768, []), (13, 384, []), (12, 12, []), (12, 16, []), (12, 16, []), (12, 16, []), (12, 144, []), (12, 64, []), (12, 2, []), (12, 32, []), (12, 32, []), (12, 32, []), (12, 3, [])]) rfl ?_
  refine Y_zputR 65 rfl (pc2 := 134) rfl fl_mo_56 rfl (by decide) (Nat.le_of_ble_eq_true rfl) (by omega) (Or.inr ⟨_, rfl⟩) ⟨_, _, _, rfl, rfl, rfl⟩ rfl rfl (Z2 := [(10, 24, [some (lay.length + 1), some (lay.length + 2), some (lay.length + 3), some (lay.length + 4), some (lay.length + 5), some (lay.length + 6), none, some (lay.length + 7), some (lay.length + 8), some (lay.length + 9), some (lay.length + 10), some (lay.length + 11), none, some (lay.length + 12), some (lay.length + 13), none, none, some (lay.length + 14), some (lay.length + 15), none, none, none, some (lay.length + 16), none]), (12, 4, []), (12, 128, []), (12, 128, []), (12, 768, []), (13, 384, []), (12, 12, []), (12, 16, []), (12, 16, []), (12, 16, []), (12, 144, []), (12, 64, []), (12, 2, []), (12, 32, []), (12, 32, []), (12, 32, []), (12, 3, [])]) rfl ?_
  refine Y_aload_n 66 rfl (pc2 := 135) rfl rfl ?_
  refine Y_bipush 67 rfl (pc2 := 137) rfl (v := nI 16) (by decide) ?_
  refine Y_znewa_i 68 rfl (pc2 := 139) rfl rfl (by omega) (zl := 17) rfl (by dsimp only; omega) (by simp only [sl_, List.map, List.sum_cons, List.sum_nil]; omega) (by omega) (Z2 := [(10, 24, [some (lay.length + 1), some (lay.length + 2), some (lay.length + 3), some (lay.length + 4), some (lay.length + 5), some (lay.length + 6), none, some (lay.length + 7), some (lay.length + 8), some (lay.length + 9), some (lay.length + 10), some (lay.length + 11), none, some (lay.length + 12), some (lay.length + 13), none, none, some (lay.length + 14), some (lay.length + 15), none, none, none, some (lay.length + 16), none]), (12, 4, []), (12, 128, []), (12, 128, []), (12, 768, []), (13, 384, []), (12, 12, []), (12, 16, []), (12, 16, []), (12, 16, []), (12, 144, []), (12, 64, []), (12, 2, []), (12, 32, []), (12, 32, []), (12, 32, []), (12, 3, []), (12, 16, [])]) rfl ?_
  refine Y_zputR 69 rfl (pc2 := 142) rfl fl_mo_59 rfl (by decide) (Nat.le_of_ble_eq_true rfl) (by omega) (Or.inr ⟨_, rfl⟩) ⟨_, _, _, rfl, rfl, rfl⟩ rfl rfl (Z2 := [(10, 24, [some (lay.length + 1), some (lay.length + 2), some (lay.length + 3), some (lay.length + 4), some (lay.length + 5), some (lay.length + 6), none, some (lay.length + 7), some (lay.length + 8), some (lay.length + 9), some (lay.length + 10), some (lay.length + 11), none, some (lay.length + 12), some (lay.length + 13), none, none, some (lay.length + 14), some (lay.length + 15), none, none, none, some (lay.length + 16), some (lay.length + 17)]), (12, 4, []), (12, 128, []), (12, 128, []), (12, 768, []), (13, 384, []), (12, 12, []), (12, 16, []), (12, 16, []), (12, 16, []), (12, 144, []), (12, 64, []), (12, 2, []), (12, 32, []), (12, 32, []), (12, 32, []), (12, 3, []), (12, 16, [])]) rfl ?_
  refine Y_iconst 70 rfl (pc2 := 143) rfl (v := nI 0) (by decide) ?_
  refine Y_istore_n 71 rfl (pc2 := 144) rfl (Nat.le_of_ble_eq_true rfl) (ls2 := [some (.ref _), some (.int _)]) rfl ?_
  refine MI_1 hN 0 (Nat.zero_le _) _ (fun b hb => ?_) ⟨?_, ?_, ?_, ?_, ?_, ?_, ?_, ?_, ?_, ?_, ?_, ?_, ?_, ?_, ?_, ?_, ?_, ?_, trivial⟩
  · funext k
    simp [uw_, ur_, Nat.ne_of_lt hb, show ∀ j, ¬ b = lay.length + j from fun j => by omega]
  · funext k
    simp [uw_, ur_, flr, ua_, z_, hz0, Nat.add_assoc]
  · funext k
    simp [uw_, ur_, flr, ua_, z_, hz0, Nat.add_assoc]
  · funext k
    simp [uw_, ur_, flr, ua_, z_, hz0, Nat.add_assoc]
  · funext k
    simp [uw_, ur_, flr, ua_, z_, hz0, Nat.add_assoc]
  · funext k
    simp [uw_, ur_, flr, ua_, z_, hz0, Nat.add_assoc]
  · funext k
    simp [uw_, ur_, flr, ua_, z_, hz0, Nat.add_assoc]
  · funext k
    simp [uw_, ur_, flr, ua_, z_, hz0, Nat.add_assoc]
  · funext k
    simp [uw_, ur_, flr, ua_, z_, hz0, Nat.add_assoc]
  · funext k
    simp [uw_, ur_, flr, ua_, z_, hz0, Nat.add_assoc]
  · funext k
    simp [uw_, ur_, flr, ua_, z_, hz0, Nat.add_assoc]
  · funext k
    simp [uw_, ur_, flr, ua_, z_, hz0, Nat.add_assoc]
  · funext k
    simp [uw_, ur_, flr, ua_, z_, hz0, Nat.add_assoc]
  · funext k
    simp [uw_, ur_, flr, ua_, z_, hz0, Nat.add_assoc]
  · funext k
    simp [uw_, ur_, flr, ua_, z_, hz0, Nat.add_assoc]
  · funext k
    simp [uw_, ur_, flr, ua_, z_, hz0, Nat.add_assoc]
  · funext k
    simp [uw_, ur_, flr, ua_, z_, hz0, Nat.add_assoc]
  · funext k
    simp [uw_, ur_, flr, ua_, z_, hz0, Nat.add_assoc]
  · funext k
    simp [uw_, ur_, flr, ua_, z_, hz0, Nat.add_assoc]
