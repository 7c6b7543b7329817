/-! the reference: leaps, choice -/
def bnd (K : Nat → Nat → Nat) (N b : Nat) : Nat := if b = 0 then 0 else ad (K (b - 1) (N - 1)) (K b 0)
def hsM (K : Nat → Nat → Nat) (N : Nat) : Nat → Nat
  | 0 => 0
  | b + 1 => hsM K N b + bnd K N b + jn (K b) (N - 1)
set_option maxHeartbeats 400000 in
theorem ad_comm (a b : Nat) : ad a b = ad b a := by
  unfold ad
  split <;> split <;> omega
set_option maxHeartbeats 400000 in
theorem hs_lps {S : Mm} {c l : Nat} {th : Nat → Nat} (hn : 1 ≤ bt S c) : hsM (Kb S c l th) (2 ^ (l + 1)) (bt S c) + ad (Kb S c l th 0 0) (Kb S c l th (bt S c - 1) (2 ^ (l + 1) - 1)) = lps S c l th := by
  have key : ∀ b, b ≤ bt S c - 1 → su (lps1 S c l th) b = hsM (Kb S c l th) (2 ^ (l + 1)) b + bnd (Kb S c l th) (2 ^ (l + 1)) b := by
    intro b
    induction b with
    | zero => intro _; rfl
    | succ b ih =>
      intro hb
      show su (lps1 S c l th) b + lps1 S c l th b = hsM (Kb S c l th) (2 ^ (l + 1)) b + bnd (Kb S c l th) (2 ^ (l + 1)) b + jn (Kb S c l th b) (2 ^ (l + 1) - 1) + bnd (Kb S c l th) (2 ^ (l + 1)) (b + 1)
      rw [ih (by omega)]
      unfold lps1
      rw [show nxt (bt S c) b = b + 1 from if_pos (by omega), show bnd (Kb S c l th) (2 ^ (l + 1)) (b + 1) = ad (Kb S c l th b (2 ^ (l + 1) - 1)) (Kb S c l th (b + 1) 0) from if_neg (by omega)]
      omega
  obtain ⟨k, hk⟩ : ∃ k, bt S c = k + 1 := ⟨bt S c - 1, by omega⟩
  unfold lps
  rw [hk]
  show hsM (Kb S c l th) (2 ^ (l + 1)) k + bnd (Kb S c l th) (2 ^ (l + 1)) k + jn (Kb S c l th k) (2 ^ (l + 1) - 1) + _ = su (lps1 S c l th) k + lps1 S c l th k
  rw [key k (by omega)]
  unfold lps1
  rw [show nxt (bt S c) k = 0 from if_neg (by omega), ad_comm, show k + 1 - 1 = k by omega]
  omega
set_option maxHeartbeats 400000 in
theorem kM_K {S : Mm} (w : WF S) {c l b s : Nat} {th : Nat → Nat} (hc : c < 4) (hl : l < 4) (hth : ∀ i, i < 3 → th i < 6) (hok : ∀ i, i < 3 → okF S l (th i)) (hb : b < bt S c) (hs : s < 2 ^ (l + 1)) : (kM S c b l (th (turn S c b)) 0 s < 0 → kM S c b l (th (turn S c b)) 1 s = nI (Kb S c l th b s)) ∧ (¬ kM S c b l (th (turn S c b)) 0 s < 0 → kM S c b l (th (turn S c b)) 0 s = nI (Kb S c l th b s)) ∧ Kb S c l th b s < 10 := by
  have hz := sz_16 hl
  have hf := hth _ (turn_lt (S := S) (c := c) (b := b))
  have ho := hok _ (turn_lt (S := S) (c := c) (b := b))
  have ht := tone_nI w hc hb
  have hq := kq_is w hl hf ht.2 ho hs
  rw [← ht.1] at hq
  have hw : ¬ wr S l (th (turn S c b)) s := fst_all ho s hs
  have hn := kM_neg w hc hb hl hf (g := 0) (by omega) (s := s) (by omega)
  refine ⟨fun e => ?_, fun e => ?_, hq.2⟩
  · have e0 := hn.1.mp e
    have e1 : ¬ S 157 (ix l (th (turn S c b)) 1 s) = -9 := fun z => hw (Or.inl ⟨e0, z⟩)
    have hz2 := hq.1
    unfold lsh at hz2
    rw [if_pos e0] at hz2
    unfold oS at hz2
    rw [if_neg e1] at hz2
    unfold kM
    rw [if_neg e1]
    exact hz2
  · have e0 := mt hn.1.mpr e
    have hz2 := hq.1
    unfold lsh at hz2
    rw [if_neg e0] at hz2
    unfold kM
    rw [if_neg e0]
    exact hz2

set_option maxHeartbeats 400000 in
theorem L_lpI {G : Nat × (Nat → Int32)} {m : Mm} {S : Mm} (h : RM m S) (w : WF S) {c l : Nat} {th : Nat → Nat} (hc : c < 4) (hl : l < 4) (hth : ∀ i, i < 3 → th i < 6) (hok : ∀ i, i < 3 → okF S l (th i)) (hch : ∀ i, i < 3 → m 169 i = nI (th i)) {b : Nat} (hb : b < bt S c) (HO : ∀ (u v x : Option Value), Y G M_mo_leapsOf (0, 0) 11 [some (.ref 153), some (.int (nI c)), some (.int (nI l)), some (.int (nI (hsM (Kb S c l th) (2 ^ (l + 1)) (b + 1)))), some (.int (nI (Kb S c l th 0 0))), some (.int (nI (Kb S c l th b (2 ^ (l + 1) - 1)))), some (.int (nI (b + 1))), u, v, x] [] (LAY, m) (qm_ LAY (pu_ (nI (lps S c l th)) m))) : ∀ t, t ≤ 2 ^ (l + 1) - 1 → ∀ (u : Option Value), Y G M_mo_leapsOf (0, 0) 39 [some (.ref 153), some (.int (nI c)), some (.int (nI l)), some (.int (nI (hsM (Kb S c l th) (2 ^ (l + 1)) b + bnd (Kb S c l th) (2 ^ (l + 1)) b + jn (Kb S c l th b) t))), some (.int (nI (Kb S c l th 0 0))), some (.int (nI (Kb S c l th b t))), some (.int (nI (b))), some (.int (nI (th (turn S c b)))), some (.int (nI (t + 1))), u] [] (LAY, m) (qm_ LAY (pu_ (nI (lps S c l th)) m)) := by
  have hn := (w.b c hc).2
  have hz := sz_16 hl
  have hz2 := sz_2 (l := l)
  have hk00 := (kM_K w hc hl hth hok (b := 0) (by omega) (s := 0) (by omega)).2.2
  have hf := hth _ (turn_lt (S := S) (c := c) (b := b))
  refine ind_ (fun t ht ih u => ?_)
  refine Y_iload 24 rfl (pc2 := 41) rfl rfl ?_
  refine Y_iload_n 25 rfl (pc2 := 42) rfl rfl ?_
  refine Y_cS 26 rfl (pc2 := 45) rfl ok_mo_stepsOf lk_mo_127 vs_mo_stepsOf (as := [.int _]) (rest := [.int _]) rfl rfl (T_mo_stepsOf (by omega)) ?_
  rintro _ _ ⟨rfl, rfl⟩
  change Y _ _ _ _ _ [.int _, .int _] _ _
  refine Y_icmp_gen 27 rfl (pc2 := 48) rfl (tgt := 144) (by decide) (by omega) (by omega) (fun h45 => ?_) (fun h45 => ?_)
  · refine Y_iinc 77 rfl (pc2 := 147) rfl rfl (nI_inc _ 1) (ls2 := [some (.ref _), some (.int _), some (.int _), some (.int _), some (.int _), some (.int _), some (.int _), some (.int _), some (.int _), _]) rfl ?_
    refine Y_goto 78 rfl (pc2 := 11) (by decide) ?_
    rw [show t = 2 ^ (l + 1) - 1 by omega]
    exact HO _ _ _
  · refine Y_aload_n 28 rfl (pc2 := 49) rfl rfl ?_
    refine Y_iload_n 29 rfl (pc2 := 50) rfl rfl ?_
    refine Y_iload 30 rfl (pc2 := 52) rfl rfl ?_
    refine Y_iload_n 31 rfl (pc2 := 53) rfl rfl ?_
    refine Y_iload 32 rfl (pc2 := 55) rfl rfl ?_
    refine Y_iconst 33 rfl (pc2 := 56) rfl (v := nI 0) (by decide) ?_
    refine Y_iload 34 rfl (pc2 := 58) rfl rfl ?_
    refine Y_cV 35 rfl (pc2 := 61) rfl ok_mo_struck lk_mo_176 vi_mo_struck ly_mo rfl (by decide) rfl (as := [.int _, .int _, .int _, .int _, .int _, .int _]) (rest := []) rfl rfl (T_mo_struck h w hc hb hl hf (by omega) (by omega)) ?_
    rintro _ _ ⟨rfl, rfl⟩
    change Y _ _ _ _ _ [.int _] _ _
    refine Y_istore 36 rfl (pc2 := 63) rfl (Nat.le_of_ble_eq_true rfl) (ls2 := [some (.ref _), some (.int _), some (.int _), some (.int _), some (.int _), some (.int _), some (.int _), some (.int _), some (.int _), some (.int _)]) rfl ?_
    refine Y_iload 37 rfl (pc2 := 65) rfl rfl ?_
    refine Y_if_ge 38 rfl (pc2 := 68) rfl (tgt := 84) (by decide) (fun h65 => ?_) (fun h65 => ?_)
    · refine Y_iload 48 rfl (pc2 := 86) rfl rfl ?_
      have hkk := kM_K w hc hl hth hok (b := b) (s := (t + 1)) (by omega) (by omega)
      refine Y_top (show _ = nI (Kb S c l th b (t + 1)) from by first | exact hkk.1 (Int32.not_le.mp h65) | exact hkk.2.1 (Int32.not_lt.mpr h65)) ?_
      refine Y_istore 49 rfl (pc2 := 88) rfl (Nat.le_of_ble_eq_true rfl) (ls2 := [some (.ref _), some (.int _), some (.int _), some (.int _), some (.int _), some (.int _), some (.int _), some (.int _), some (.int _), some (.int _)]) rfl ?_
      have hk0 := (kM_K w hc hl hth hok hb (s := t) (by omega)).2.2
      have hk1 := hkk.2.2
      refine Y_iload_n 50 rfl (pc2 := 89) rfl rfl ?_
      refine Y_iload 51 rfl (pc2 := 91) rfl rfl ?_
      refine Y_if_gen 52 rfl (pc2 := 94) rfl (tgt := 98) (by decide) (by omega) ?_
      refine Y_iload 55 rfl (pc2 := 100) rfl rfl ?_
      refine Y_iload 56 rfl (pc2 := 102) rfl rfl ?_
      refine Y_icmp_gen 57 rfl (pc2 := 105) rfl (tgt := 113) (by decide) (by omega) (by omega) (fun h102 => ?_) (fun h102 => ?_)
      · refine Y_iload 62 rfl (pc2 := 115) rfl rfl ?_
        refine Y_iload 63 rfl (pc2 := 117) rfl rfl ?_
        refine Y_isub 64 rfl (pc2 := 118) rfl ?_
        refine Y_top (nI_sub (by omega)) ?_
        refine Y_iadd 65 rfl (pc2 := 119) rfl ?_
        refine Y_top (nI_add _ _) ?_
        refine Y_istore_n 66 rfl (pc2 := 120) rfl (Nat.le_of_ble_eq_true rfl) (ls2 := [some (.ref _), some (.int _), some (.int _), some (.int _), some (.int _), some (.int _), some (.int _), some (.int _), some (.int _), some (.int _)]) rfl ?_
        refine Y_iload 67 rfl (pc2 := 122) rfl rfl ?_
        refine Y_if_gen 68 rfl (pc2 := 125) rfl (tgt := 130) (by decide) (by omega) ?_
        refine Y_iload 71 rfl (pc2 := 132) rfl rfl ?_
        refine Y_istore 72 rfl (pc2 := 134) rfl (Nat.le_of_ble_eq_true rfl) (ls2 := [some (.ref _), some (.int _), some (.int _), some (.int _), some (.int _), some (.int _), some (.int _), some (.int _), some (.int _), some (.int _)]) rfl ?_
        refine Y_iload 73 rfl (pc2 := 136) rfl rfl ?_
        refine Y_istore 74 rfl (pc2 := 138) rfl (Nat.le_of_ble_eq_true rfl) (ls2 := [some (.ref _), some (.int _), some (.int _), some (.int _), some (.int _), some (.int _), some (.int _), some (.int _), some (.int _), some (.int _)]) rfl ?_
        refine Y_iinc 75 rfl (pc2 := 141) rfl rfl (nI_inc _ 1) (ls2 := [some (.ref _), some (.int _), some (.int _), some (.int _), some (.int _), some (.int _), some (.int _), some (.int _), some (.int _), some (.int _)]) rfl ?_
        refine Y_goto 76 rfl (pc2 := 39) (by decide) ?_
        refine Y_ls ?_ (ih (t + 1) (by omega) (by omega) (some (.int (nI (Kb S c l th b (t + 1))))))
        rw [show jn (Kb S c l th b) (t + 1) = jn (Kb S c l th b) t + ad (Kb S c l th b t) (Kb S c l th b (t + 1)) from rfl, ← Nat.add_assoc]
        unfold ad
        first | rw [if_pos (by omega)] | rw [if_neg (by omega)]
      · refine Y_iload 58 rfl (pc2 := 107) rfl rfl ?_
        refine Y_iload 59 rfl (pc2 := 109) rfl rfl ?_
        refine Y_isub 60 rfl (pc2 := 110) rfl ?_
        refine Y_top (nI_sub (by omega)) ?_
        refine Y_goto 61 rfl (pc2 := 118) (by decide) ?_
        refine Y_iadd 65 rfl (pc2 := 119) rfl ?_
        refine Y_top (nI_add _ _) ?_
        refine Y_istore_n 66 rfl (pc2 := 120) rfl (Nat.le_of_ble_eq_true rfl) (ls2 := [some (.ref _), some (.int _), some (.int _), some (.int _), some (.int _), some (.int _), some (.int _), some (.int _), some (.int _), some (.int _)]) rfl ?_
        refine Y_iload 67 rfl (pc2 := 122) rfl rfl ?_
        refine Y_if_gen 68 rfl (pc2 := 125) rfl (tgt := 130) (by decide) (by omega) ?_
        refine Y_iload 71 rfl (pc2 := 132) rfl rfl ?_
        refine Y_istore 72 rfl (pc2 := 134) rfl (Nat.le_of_ble_eq_true rfl) (ls2 := [some (.ref _), some (.int _), some (.int _), some (.int _), some (.int _), some (.int _), some (.int _), some (.int _), some (.int _), some (.int _)]) rfl ?_
        refine Y_iload 73 rfl (pc2 := 136) rfl rfl ?_
        refine Y_istore 74 rfl (pc2 := 138) rfl (Nat.le_of_ble_eq_true rfl) (ls2 := [some (.ref _), some (.int _), some (.int _), some (.int _), some (.int _), some (.int _), some (.int _), some (.int _), some (.int _), some (.int _)]) rfl ?_
        refine Y_iinc 75 rfl (pc2 := 141) rfl rfl (nI_inc _ 1) (ls2 := [some (.ref _), some (.int _), some (.int _), some (.int _), some (.int _), some (.int _), some (.int _), some (.int _), some (.int _), some (.int _)]) rfl ?_
        refine Y_goto 76 rfl (pc2 := 39) (by decide) ?_
        refine Y_ls ?_ (ih (t + 1) (by omega) (by omega) (some (.int (nI (Kb S c l th b (t + 1))))))
        rw [show jn (Kb S c l th b) (t + 1) = jn (Kb S c l th b) t + ad (Kb S c l th b t) (Kb S c l th b (t + 1)) from rfl, ← Nat.add_assoc]
        unfold ad
        first | rw [if_pos (by omega)] | rw [if_neg (by omega)]
    · refine Y_aload_n 39 rfl (pc2 := 69) rfl rfl ?_
      refine Y_iload_n 40 rfl (pc2 := 70) rfl rfl ?_
      refine Y_iload 41 rfl (pc2 := 72) rfl rfl ?_
      refine Y_iload_n 42 rfl (pc2 := 73) rfl rfl ?_
      refine Y_iload 43 rfl (pc2 := 75) rfl rfl ?_
      refine Y_iconst 44 rfl (pc2 := 76) rfl (v := nI 1) (by decide) ?_
      refine Y_iload 45 rfl (pc2 := 78) rfl rfl ?_
      refine Y_cV 46 rfl (pc2 := 81) rfl ok_mo_struck lk_mo_176 vi_mo_struck ly_mo rfl (by decide) rfl (as := [.int _, .int _, .int _, .int _, .int _, .int _]) (rest := []) rfl rfl (T_mo_struck h w hc hb hl hf (by omega) (by omega)) ?_
      rintro _ _ ⟨rfl, rfl⟩
      change Y _ _ _ _ _ [.int _] _ _
      refine Y_goto 47 rfl (pc2 := 86) (by decide) ?_
      have hkk := kM_K w hc hl hth hok (b := b) (s := (t + 1)) (by omega) (by omega)
      refine Y_top (show _ = nI (Kb S c l th b (t + 1)) from by first | exact hkk.1 (Int32.not_le.mp h65) | exact hkk.2.1 (Int32.not_lt.mpr h65)) ?_
      refine Y_istore 49 rfl (pc2 := 88) rfl (Nat.le_of_ble_eq_true rfl) (ls2 := [some (.ref _), some (.int _), some (.int _), some (.int _), some (.int _), some (.int _), some (.int _), some (.int _), some (.int _), some (.int _)]) rfl ?_
      have hk0 := (kM_K w hc hl hth hok hb (s := t) (by omega)).2.2
      have hk1 := hkk.2.2
      refine Y_iload_n 50 rfl (pc2 := 89) rfl rfl ?_
      refine Y_iload 51 rfl (pc2 := 91) rfl rfl ?_
      refine Y_if_gen 52 rfl (pc2 := 94) rfl (tgt := 98) (by decide) (by omega) ?_
      refine Y_iload 55 rfl (pc2 := 100) rfl rfl ?_
      refine Y_iload 56 rfl (pc2 := 102) rfl rfl ?_
      refine Y_icmp_gen 57 rfl (pc2 := 105) rfl (tgt := 113) (by decide) (by omega) (by omega) (fun h102 => ?_) (fun h102 => ?_)
      · refine Y_iload 62 rfl (pc2 := 115) rfl rfl ?_
        refine Y_iload 63 rfl (pc2 := 117) rfl rfl ?_
        refine Y_isub 64 rfl (pc2 := 118) rfl ?_
        refine Y_top (nI_sub (by omega)) ?_
        refine Y_iadd 65 rfl (pc2 := 119) rfl ?_
        refine Y_top (nI_add _ _) ?_
        refine Y_istore_n 66 rfl (pc2 := 120) rfl (Nat.le_of_ble_eq_true rfl) (ls2 := [some (.ref _), some (.int _), some (.int _), some (.int _), some (.int _), some (.int _), some (.int _), some (.int _), some (.int _), some (.int _)]) rfl ?_
        refine Y_iload 67 rfl (pc2 := 122) rfl rfl ?_
        refine Y_if_gen 68 rfl (pc2 := 125) rfl (tgt := 130) (by decide) (by omega) ?_
        refine Y_iload 71 rfl (pc2 := 132) rfl rfl ?_
        refine Y_istore 72 rfl (pc2 := 134) rfl (Nat.le_of_ble_eq_true rfl) (ls2 := [some (.ref _), some (.int _), some (.int _), some (.int _), some (.int _), some (.int _), some (.int _), some (.int _), some (.int _), some (.int _)]) rfl ?_
        refine Y_iload 73 rfl (pc2 := 136) rfl rfl ?_
        refine Y_istore 74 rfl (pc2 := 138) rfl (Nat.le_of_ble_eq_true rfl) (ls2 := [some (.ref _), some (.int _), some (.int _), some (.int _), some (.int _), some (.int _), some (.int _), some (.int _), some (.int _), some (.int _)]) rfl ?_
        refine Y_iinc 75 rfl (pc2 := 141) rfl rfl (nI_inc _ 1) (ls2 := [some (.ref _), some (.int _), some (.int _), some (.int _), some (.int _), some (.int _), some (.int _), some (.int _), some (.int _), some (.int _)]) rfl ?_
        refine Y_goto 76 rfl (pc2 := 39) (by decide) ?_
        refine Y_ls ?_ (ih (t + 1) (by omega) (by omega) (some (.int (nI (Kb S c l th b (t + 1))))))
        rw [show jn (Kb S c l th b) (t + 1) = jn (Kb S c l th b) t + ad (Kb S c l th b t) (Kb S c l th b (t + 1)) from rfl, ← Nat.add_assoc]
        unfold ad
        first | rw [if_pos (by omega)] | rw [if_neg (by omega)]
      · refine Y_iload 58 rfl (pc2 := 107) rfl rfl ?_
        refine Y_iload 59 rfl (pc2 := 109) rfl rfl ?_
        refine Y_isub 60 rfl (pc2 := 110) rfl ?_
        refine Y_top (nI_sub (by omega)) ?_
        refine Y_goto 61 rfl (pc2 := 118) (by decide) ?_
        refine Y_iadd 65 rfl (pc2 := 119) rfl ?_
        refine Y_top (nI_add _ _) ?_
        refine Y_istore_n 66 rfl (pc2 := 120) rfl (Nat.le_of_ble_eq_true rfl) (ls2 := [some (.ref _), some (.int _), some (.int _), some (.int _), some (.int _), some (.int _), some (.int _), some (.int _), some (.int _), some (.int _)]) rfl ?_
        refine Y_iload 67 rfl (pc2 := 122) rfl rfl ?_
        refine Y_if_gen 68 rfl (pc2 := 125) rfl (tgt := 130) (by decide) (by omega) ?_
        refine Y_iload 71 rfl (pc2 := 132) rfl rfl ?_
        refine Y_istore 72 rfl (pc2 := 134) rfl (Nat.le_of_ble_eq_true rfl) (ls2 := [some (.ref _), some (.int _), some (.int _), some (.int _), some (.int _), some (.int _), some (.int _), some (.int _), some (.int _), some (.int _)]) rfl ?_
        refine Y_iload 73 rfl (pc2 := 136) rfl rfl ?_
        refine Y_istore 74 rfl (pc2 := 138) rfl (Nat.le_of_ble_eq_true rfl) (ls2 := [some (.ref _), some (.int _), some (.int _), some (.int _), some (.int _), some (.int _), some (.int _), some (.int _), some (.int _), some (.int _)]) rfl ?_
        refine Y_iinc 75 rfl (pc2 := 141) rfl rfl (nI_inc _ 1) (ls2 := [some (.ref _), some (.int _), some (.int _), some (.int _), some (.int _), some (.int _), some (.int _), some (.int _), some (.int _), some (.int _)]) rfl ?_
        refine Y_goto 76 rfl (pc2 := 39) (by decide) ?_
        refine Y_ls ?_ (ih (t + 1) (by omega) (by omega) (some (.int (nI (Kb S c l th b (t + 1))))))
        rw [show jn (Kb S c l th b) (t + 1) = jn (Kb S c l th b) t + ad (Kb S c l th b t) (Kb S c l th b (t + 1)) from rfl, ← Nat.add_assoc]
        unfold ad
        first | rw [if_pos (by omega)] | rw [if_neg (by omega)]

set_option maxHeartbeats 400000 in
theorem L_lpO {G : Nat × (Nat → Int32)} {m : Mm} {S : Mm} (h : RM m S) (w : WF S) {c l : Nat} {th : Nat → Nat} (hc : c < 4) (hl : l < 4) (hth : ∀ i, i < 3 → th i < 6) (hok : ∀ i, i < 3 → okF S l (th i)) (hch : ∀ i, i < 3 → m 169 i = nI (th i)) : ∀ b, b ≤ bt S c → 1 ≤ b → ∀ (u v x : Option Value), Y G M_mo_leapsOf (0, 0) 11 [some (.ref 153), some (.int (nI c)), some (.int (nI l)), some (.int (nI (hsM (Kb S c l th) (2 ^ (l + 1)) b))), some (.int (nI (Kb S c l th 0 0))), some (.int (nI (Kb S c l th (b - 1) (2 ^ (l + 1) - 1)))), some (.int (nI (b))), u, v, x] [] (LAY, m) (qm_ LAY (pu_ (nI (lps S c l th)) m)) := by
  have hn := (w.b c hc).2
  have hz := sz_16 hl
  have hz2 := sz_2 (l := l)
  have hk00 := (kM_K w hc hl hth hok (b := 0) (by omega) (s := 0) (by omega)).2.2
  refine ind_ (fun b hb ih hb1 u v x => ?_)
  refine Y_iload 8 rfl (pc2 := 13) rfl rfl ?_
  refine Y_aload_n 9 rfl (pc2 := 14) rfl rfl ?_
  refine Y_getR 10 rfl (pc2 := 17) rfl fl_mo_7 ly_mo (by decide) rfl rfl (by omega) ?_
  refine Y_iload_n 11 rfl (pc2 := 18) rfl rfl ?_
  refine Y_iald 12 rfl (pc2 := 19) rfl ly_mo_beats rfl (by omega) (by decide) ?_
  refine Y_top ((h.e (by decide) (by decide)).trans (w.b _ (by omega)).1) ?_
  refine Y_icmp_gen 13 rfl (pc2 := 22) rfl (tgt := 150) (by decide) (by omega) (by omega) (fun h19 => ?_) (fun h19 => ?_)
  · have hk3 := (kM_K w hc hl hth hok (b := 0) (by omega) (s := 0) (by omega)).2.2
    have hk4 := (kM_K w hc hl hth hok (b := b - 1) (by omega) (s := 2 ^ (l + 1) - 1) (by omega)).2.2
    refine Y_iload_n 79 rfl (pc2 := 151) rfl rfl ?_
    refine Y_iload 80 rfl (pc2 := 153) rfl rfl ?_
    refine Y_iload 81 rfl (pc2 := 155) rfl rfl ?_
    refine Y_icmp_gen 82 rfl (pc2 := 158) rfl (tgt := 166) (by decide) (by omega) (by omega) (fun h155 => ?_) (fun h155 => ?_)
    · refine Y_iload 87 rfl (pc2 := 168) rfl rfl ?_
      refine Y_iload 88 rfl (pc2 := 170) rfl rfl ?_
      refine Y_isub 89 rfl (pc2 := 171) rfl ?_
      refine Y_top (nI_sub (by omega)) ?_
      refine Y_iadd 90 rfl (pc2 := 172) rfl ?_
      refine Y_top (nI_add _ _) ?_
      refine Y_iret 91 rfl rfl rfl ⟨rfl, ?_⟩
      dsimp only
      have hfin := hs_lps (S := S) (c := c) (l := l) (th := th) (by omega)
      have hbn : b = bt S c := by omega
      refine pu_i (congrArg nI ?_)
      rw [← hfin, ← hbn]
      unfold ad
      split <;> omega
    · refine Y_iload 83 rfl (pc2 := 160) rfl rfl ?_
      refine Y_iload 84 rfl (pc2 := 162) rfl rfl ?_
      refine Y_isub 85 rfl (pc2 := 163) rfl ?_
      refine Y_top (nI_sub (by omega)) ?_
      refine Y_goto 86 rfl (pc2 := 171) (by decide) ?_
      refine Y_iadd 90 rfl (pc2 := 172) rfl ?_
      refine Y_top (nI_add _ _) ?_
      refine Y_iret 91 rfl rfl rfl ⟨rfl, ?_⟩
      dsimp only
      have hfin := hs_lps (S := S) (c := c) (l := l) (th := th) (by omega)
      have hbn : b = bt S c := by omega
      refine pu_i (congrArg nI ?_)
      rw [← hfin, ← hbn]
      unfold ad
      split <;> omega
  · have hf := hth _ (turn_lt (S := S) (c := c) (b := b))
    have ht3 : turn S c b < 3 := turn_lt
    refine Y_aload_n 14 rfl (pc2 := 23) rfl rfl ?_
    refine Y_getR 15 rfl (pc2 := 26) rfl fl_mo_56 ly_mo (by decide) rfl rfl (by omega) ?_
    refine Y_aload_n 16 rfl (pc2 := 27) rfl rfl ?_
    refine Y_iload_n 17 rfl (pc2 := 28) rfl rfl ?_
    refine Y_iload 18 rfl (pc2 := 30) rfl rfl ?_
    refine Y_cV 19 rfl (pc2 := 33) rfl ok_mo_turn lk_mo_173 vi_mo_turn ly_mo rfl (by decide) rfl (as := [.int _, .int _]) (rest := [.ref _]) rfl rfl (T_mo_turn h w (by omega) (by omega)) ?_
    rintro _ _ ⟨rfl, rfl⟩
    change Y _ _ _ _ _ [.int _, .ref _] _ _
    refine Y_iald 20 rfl (pc2 := 34) rfl ly_mo_three rfl (by omega) (by decide) ?_
    refine Y_top (hch _ (by omega)) ?_
    refine Y_istore 21 rfl (pc2 := 36) rfl (Nat.le_of_ble_eq_true rfl) (ls2 := [some (.ref _), some (.int _), some (.int _), some (.int _), some (.int _), some (.int _), some (.int _), some (.int _), _, _]) rfl ?_
    refine Y_iconst 22 rfl (pc2 := 37) rfl (v := nI 0) (by decide) ?_
    refine Y_istore 23 rfl (pc2 := 39) rfl (Nat.le_of_ble_eq_true rfl) (ls2 := [some (.ref _), some (.int _), some (.int _), some (.int _), some (.int _), some (.int _), some (.int _), some (.int _), some (.int _), _]) rfl ?_
    refine Y_iload 24 rfl (pc2 := 41) rfl rfl ?_
    refine Y_iload_n 25 rfl (pc2 := 42) rfl rfl ?_
    refine Y_cS 26 rfl (pc2 := 45) rfl ok_mo_stepsOf lk_mo_127 vs_mo_stepsOf (as := [.int _]) (rest := [.int _]) rfl rfl (T_mo_stepsOf (by omega)) ?_
    rintro _ _ ⟨rfl, rfl⟩
    change Y _ _ _ _ _ [.int _, .int _] _ _
    refine Y_icmp_gen 27 rfl (pc2 := 48) rfl (tgt := 144) (by decide) (by omega) (by omega) (fun h45 => ?_) (fun h45 => ?_)
    · omega
    · refine Y_aload_n 28 rfl (pc2 := 49) rfl rfl ?_
      refine Y_iload_n 29 rfl (pc2 := 50) rfl rfl ?_
      refine Y_iload 30 rfl (pc2 := 52) rfl rfl ?_
      refine Y_iload_n 31 rfl (pc2 := 53) rfl rfl ?_
      refine Y_iload 32 rfl (pc2 := 55) rfl rfl ?_
      refine Y_iconst 33 rfl (pc2 := 56) rfl (v := nI 0) (by decide) ?_
      refine Y_iload 34 rfl (pc2 := 58) rfl rfl ?_
      refine Y_cV 35 rfl (pc2 := 61) rfl ok_mo_struck lk_mo_176 vi_mo_struck ly_mo rfl (by decide) rfl (as := [.int _, .int _, .int _, .int _, .int _, .int _]) (rest := []) rfl rfl (T_mo_struck h w hc (by omega) hl hf (by omega) (by omega)) ?_
      rintro _ _ ⟨rfl, rfl⟩
      change Y _ _ _ _ _ [.int _] _ _
      refine Y_istore 36 rfl (pc2 := 63) rfl (Nat.le_of_ble_eq_true rfl) (ls2 := [some (.ref _), some (.int _), some (.int _), some (.int _), some (.int _), some (.int _), some (.int _), some (.int _), some (.int _), some (.int _)]) rfl ?_
      refine Y_iload 37 rfl (pc2 := 65) rfl rfl ?_
      refine Y_if_ge 38 rfl (pc2 := 68) rfl (tgt := 84) (by decide) (fun h65 => ?_) (fun h65 => ?_)
      · refine Y_iload 48 rfl (pc2 := 86) rfl rfl ?_
        have hkk := kM_K w hc hl hth hok (b := b) (s := 0) (by omega) (by omega)
        refine Y_top (show _ = nI (Kb S c l th b 0) from by first | exact hkk.1 (Int32.not_le.mp h65) | exact hkk.2.1 (Int32.not_lt.mpr h65)) ?_
        refine Y_istore 49 rfl (pc2 := 88) rfl (Nat.le_of_ble_eq_true rfl) (ls2 := [some (.ref _), some (.int _), some (.int _), some (.int _), some (.int _), some (.int _), some (.int _), some (.int _), some (.int _), some (.int _)]) rfl ?_
        have hk0 := (kM_K w hc hl hth hok (b := b - 1) (by omega) (s := 2 ^ (l + 1) - 1) (by omega)).2.2
        have hk1 := hkk.2.2
        refine Y_iload_n 50 rfl (pc2 := 89) rfl rfl ?_
        refine Y_iload 51 rfl (pc2 := 91) rfl rfl ?_
        refine Y_if_gen 52 rfl (pc2 := 94) rfl (tgt := 98) (by decide) (by omega) ?_
        refine Y_iload 55 rfl (pc2 := 100) rfl rfl ?_
        refine Y_iload 56 rfl (pc2 := 102) rfl rfl ?_
        refine Y_icmp_gen 57 rfl (pc2 := 105) rfl (tgt := 113) (by decide) (by omega) (by omega) (fun h102 => ?_) (fun h102 => ?_)
        · refine Y_iload 62 rfl (pc2 := 115) rfl rfl ?_
          refine Y_iload 63 rfl (pc2 := 117) rfl rfl ?_
          refine Y_isub 64 rfl (pc2 := 118) rfl ?_
          refine Y_top (nI_sub (by omega)) ?_
          refine Y_iadd 65 rfl (pc2 := 119) rfl ?_
          refine Y_top (nI_add _ _) ?_
          refine Y_istore_n 66 rfl (pc2 := 120) rfl (Nat.le_of_ble_eq_true rfl) (ls2 := [some (.ref _), some (.int _), some (.int _), some (.int _), some (.int _), some (.int _), some (.int _), some (.int _), some (.int _), some (.int _)]) rfl ?_
          refine Y_iload 67 rfl (pc2 := 122) rfl rfl ?_
          refine Y_if_gen 68 rfl (pc2 := 125) rfl (tgt := 130) (by decide) (by omega) ?_
          refine Y_iload 71 rfl (pc2 := 132) rfl rfl ?_
          refine Y_istore 72 rfl (pc2 := 134) rfl (Nat.le_of_ble_eq_true rfl) (ls2 := [some (.ref _), some (.int _), some (.int _), some (.int _), some (.int _), some (.int _), some (.int _), some (.int _), some (.int _), some (.int _)]) rfl ?_
          refine Y_iload 73 rfl (pc2 := 136) rfl rfl ?_
          refine Y_istore 74 rfl (pc2 := 138) rfl (Nat.le_of_ble_eq_true rfl) (ls2 := [some (.ref _), some (.int _), some (.int _), some (.int _), some (.int _), some (.int _), some (.int _), some (.int _), some (.int _), some (.int _)]) rfl ?_
          refine Y_iinc 75 rfl (pc2 := 141) rfl rfl (nI_inc _ 1) (ls2 := [some (.ref _), some (.int _), some (.int _), some (.int _), some (.int _), some (.int _), some (.int _), some (.int _), some (.int _), some (.int _)]) rfl ?_
          refine Y_goto 76 rfl (pc2 := 39) (by decide) ?_
          have hz9 := L_lpI (G := G) h w hc hl hth hok hch (b := b) (by omega) (fun u v x => ih (b + 1) (by omega) (by omega) (by omega) u v x) 0 (Nat.zero_le _)
          refine Y_ls ?_ (hz9 (some (.int (nI (Kb S c l th b 0)))))
          rw [show bnd (Kb S c l th) (2 ^ (l + 1)) b = ad (Kb S c l th (b - 1) (2 ^ (l + 1) - 1)) (Kb S c l th b 0) from if_neg (by omega), show jn (Kb S c l th b) 0 = 0 from rfl]
          unfold ad
          first | (rw [if_pos (by omega)]; rfl) | (rw [if_neg (by omega)]; rfl)
        · refine Y_iload 58 rfl (pc2 := 107) rfl rfl ?_
          refine Y_iload 59 rfl (pc2 := 109) rfl rfl ?_
          refine Y_isub 60 rfl (pc2 := 110) rfl ?_
          refine Y_top (nI_sub (by omega)) ?_
          refine Y_goto 61 rfl (pc2 := 118) (by decide) ?_
          refine Y_iadd 65 rfl (pc2 := 119) rfl ?_
          refine Y_top (nI_add _ _) ?_
          refine Y_istore_n 66 rfl (pc2 := 120) rfl (Nat.le_of_ble_eq_true rfl) (ls2 := [some (.ref _), some (.int _), some (.int _), some (.int _), some (.int _), some (.int _), some (.int _), some (.int _), some (.int _), some (.int _)]) rfl ?_
          refine Y_iload 67 rfl (pc2 := 122) rfl rfl ?_
          refine Y_if_gen 68 rfl (pc2 := 125) rfl (tgt := 130) (by decide) (by omega) ?_
          refine Y_iload 71 rfl (pc2 := 132) rfl rfl ?_
          refine Y_istore 72 rfl (pc2 := 134) rfl (Nat.le_of_ble_eq_true rfl) (ls2 := [some (.ref _), some (.int _), some (.int _), some (.int _), some (.int _), some (.int _), some (.int _), some (.int _), some (.int _), some (.int _)]) rfl ?_
          refine Y_iload 73 rfl (pc2 := 136) rfl rfl ?_
          refine Y_istore 74 rfl (pc2 := 138) rfl (Nat.le_of_ble_eq_true rfl) (ls2 := [some (.ref _), some (.int _), some (.int _), some (.int _), some (.int _), some (.int _), some (.int _), some (.int _), some (.int _), some (.int _)]) rfl ?_
          refine Y_iinc 75 rfl (pc2 := 141) rfl rfl (nI_inc _ 1) (ls2 := [some (.ref _), some (.int _), some (.int _), some (.int _), some (.int _), some (.int _), some (.int _), some (.int _), some (.int _), some (.int _)]) rfl ?_
          refine Y_goto 76 rfl (pc2 := 39) (by decide) ?_
          have hz9 := L_lpI (G := G) h w hc hl hth hok hch (b := b) (by omega) (fun u v x => ih (b + 1) (by omega) (by omega) (by omega) u v x) 0 (Nat.zero_le _)
          refine Y_ls ?_ (hz9 (some (.int (nI (Kb S c l th b 0)))))
          rw [show bnd (Kb S c l th) (2 ^ (l + 1)) b = ad (Kb S c l th (b - 1) (2 ^ (l + 1) - 1)) (Kb S c l th b 0) from if_neg (by omega), show jn (Kb S c l th b) 0 = 0 from rfl]
          unfold ad
          first | (rw [if_pos (by omega)]; rfl) | (rw [if_neg (by omega)]; rfl)
      · refine Y_aload_n 39 rfl (pc2 := 69) rfl rfl ?_
        refine Y_iload_n 40 rfl (pc2 := 70) rfl rfl ?_
        refine Y_iload 41 rfl (pc2 := 72) rfl rfl ?_
        refine Y_iload_n 42 rfl (pc2 := 73) rfl rfl ?_
        refine Y_iload 43 rfl (pc2 := 75) rfl rfl ?_
        refine Y_iconst 44 rfl (pc2 := 76) rfl (v := nI 1) (by decide) ?_
        refine Y_iload 45 rfl (pc2 := 78) rfl rfl ?_
        refine Y_cV 46 rfl (pc2 := 81) rfl ok_mo_struck lk_mo_176 vi_mo_struck ly_mo rfl (by decide) rfl (as := [.int _, .int _, .int _, .int _, .int _, .int _]) (rest := []) rfl rfl (T_mo_struck h w hc (by omega) hl hf (by omega) (by omega)) ?_
        rintro _ _ ⟨rfl, rfl⟩
        change Y _ _ _ _ _ [.int _] _ _
        refine Y_goto 47 rfl (pc2 := 86) (by decide) ?_
        have hkk := kM_K w hc hl hth hok (b := b) (s := 0) (by omega) (by omega)
        refine Y_top (show _ = nI (Kb S c l th b 0) from by first | exact hkk.1 (Int32.not_le.mp h65) | exact hkk.2.1 (Int32.not_lt.mpr h65)) ?_
        refine Y_istore 49 rfl (pc2 := 88) rfl (Nat.le_of_ble_eq_true rfl) (ls2 := [some (.ref _), some (.int _), some (.int _), some (.int _), some (.int _), some (.int _), some (.int _), some (.int _), some (.int _), some (.int _)]) rfl ?_
        have hk0 := (kM_K w hc hl hth hok (b := b - 1) (by omega) (s := 2 ^ (l + 1) - 1) (by omega)).2.2
        have hk1 := hkk.2.2
        refine Y_iload_n 50 rfl (pc2 := 89) rfl rfl ?_
        refine Y_iload 51 rfl (pc2 := 91) rfl rfl ?_
        refine Y_if_gen 52 rfl (pc2 := 94) rfl (tgt := 98) (by decide) (by omega) ?_
        refine Y_iload 55 rfl (pc2 := 100) rfl rfl ?_
        refine Y_iload 56 rfl (pc2 := 102) rfl rfl ?_
        refine Y_icmp_gen 57 rfl (pc2 := 105) rfl (tgt := 113) (by decide) (by omega) (by omega) (fun h102 => ?_) (fun h102 => ?_)
        · refine Y_iload 62 rfl (pc2 := 115) rfl rfl ?_
          refine Y_iload 63 rfl (pc2 := 117) rfl rfl ?_
          refine Y_isub 64 rfl (pc2 := 118) rfl ?_
          refine Y_top (nI_sub (by omega)) ?_
          refine Y_iadd 65 rfl (pc2 := 119) rfl ?_
          refine Y_top (nI_add _ _) ?_
          refine Y_istore_n 66 rfl (pc2 := 120) rfl (Nat.le_of_ble_eq_true rfl) (ls2 := [some (.ref _), some (.int _), some (.int _), some (.int _), some (.int _), some (.int _), some (.int _), some (.int _), some (.int _), some (.int _)]) rfl ?_
          refine Y_iload 67 rfl (pc2 := 122) rfl rfl ?_
          refine Y_if_gen 68 rfl (pc2 := 125) rfl (tgt := 130) (by decide) (by omega) ?_
          refine Y_iload 71 rfl (pc2 := 132) rfl rfl ?_
          refine Y_istore 72 rfl (pc2 := 134) rfl (Nat.le_of_ble_eq_true rfl) (ls2 := [some (.ref _), some (.int _), some (.int _), some (.int _), some (.int _), some (.int _), some (.int _), some (.int _), some (.int _), some (.int _)]) rfl ?_
          refine Y_iload 73 rfl (pc2 := 136) rfl rfl ?_
          refine Y_istore 74 rfl (pc2 := 138) rfl (Nat.le_of_ble_eq_true rfl) (ls2 := [some (.ref _), some (.int _), some (.int _), some (.int _), some (.int _), some (.int _), some (.int _), some (.int _), some (.int _), some (.int _)]) rfl ?_
          refine Y_iinc 75 rfl (pc2 := 141) rfl rfl (nI_inc _ 1) (ls2 := [some (.ref _), some (.int _), some (.int _), some (.int _), some (.int _), some (.int _), some (.int _), some (.int _), some (.int _), some (.int _)]) rfl ?_
          refine Y_goto 76 rfl (pc2 := 39) (by decide) ?_
          have hz9 := L_lpI (G := G) h w hc hl hth hok hch (b := b) (by omega) (fun u v x => ih (b + 1) (by omega) (by omega) (by omega) u v x) 0 (Nat.zero_le _)
          refine Y_ls ?_ (hz9 (some (.int (nI (Kb S c l th b 0)))))
          rw [show bnd (Kb S c l th) (2 ^ (l + 1)) b = ad (Kb S c l th (b - 1) (2 ^ (l + 1) - 1)) (Kb S c l th b 0) from if_neg (by omega), show jn (Kb S c l th b) 0 = 0 from rfl]
          unfold ad
          first | (rw [if_pos (by omega)]; rfl) | (rw [if_neg (by omega)]; rfl)
        · refine Y_iload 58 rfl (pc2 := 107) rfl rfl ?_
          refine Y_iload 59 rfl (pc2 := 109) rfl rfl ?_
          refine Y_isub 60 rfl (pc2 := 110) rfl ?_
          refine Y_top (nI_sub (by omega)) ?_
          refine Y_goto 61 rfl (pc2 := 118) (by decide) ?_
          refine Y_iadd 65 rfl (pc2 := 119) rfl ?_
          refine Y_top (nI_add _ _) ?_
          refine Y_istore_n 66 rfl (pc2 := 120) rfl (Nat.le_of_ble_eq_true rfl) (ls2 := [some (.ref _), some (.int _), some (.int _), some (.int _), some (.int _), some (.int _), some (.int _), some (.int _), some (.int _), some (.int _)]) rfl ?_
          refine Y_iload 67 rfl (pc2 := 122) rfl rfl ?_
          refine Y_if_gen 68 rfl (pc2 := 125) rfl (tgt := 130) (by decide) (by omega) ?_
          refine Y_iload 71 rfl (pc2 := 132) rfl rfl ?_
          refine Y_istore 72 rfl (pc2 := 134) rfl (Nat.le_of_ble_eq_true rfl) (ls2 := [some (.ref _), some (.int _), some (.int _), some (.int _), some (.int _), some (.int _), some (.int _), some (.int _), some (.int _), some (.int _)]) rfl ?_
          refine Y_iload 73 rfl (pc2 := 136) rfl rfl ?_
          refine Y_istore 74 rfl (pc2 := 138) rfl (Nat.le_of_ble_eq_true rfl) (ls2 := [some (.ref _), some (.int _), some (.int _), some (.int _), some (.int _), some (.int _), some (.int _), some (.int _), some (.int _), some (.int _)]) rfl ?_
          refine Y_iinc 75 rfl (pc2 := 141) rfl rfl (nI_inc _ 1) (ls2 := [some (.ref _), some (.int _), some (.int _), some (.int _), some (.int _), some (.int _), some (.int _), some (.int _), some (.int _), some (.int _)]) rfl ?_
          refine Y_goto 76 rfl (pc2 := 39) (by decide) ?_
          have hz9 := L_lpI (G := G) h w hc hl hth hok hch (b := b) (by omega) (fun u v x => ih (b + 1) (by omega) (by omega) (by omega) u v x) 0 (Nat.zero_le _)
          refine Y_ls ?_ (hz9 (some (.int (nI (Kb S c l th b 0)))))
          rw [show bnd (Kb S c l th) (2 ^ (l + 1)) b = ad (Kb S c l th (b - 1) (2 ^ (l + 1) - 1)) (Kb S c l th b 0) from if_neg (by omega), show jn (Kb S c l th b) 0 = 0 from rfl]
          unfold ad
          first | (rw [if_pos (by omega)]; rfl) | (rw [if_neg (by omega)]; rfl)

set_option maxHeartbeats 400000 in
theorem T_mo_leapsOf {G : Nat × (Nat → Int32)} {m : Mm} {S : Mm} (h : RM m S) (w : WF S) {c l : Nat} {th : Nat → Nat} (hc : c < 4) (hl : l < 4) (hth : ∀ i, i < 3 → th i < 6) (hok : ∀ i, i < 3 → okF S l (th i)) (hch : ∀ i, i < 3 → m 169 i = nI (th i)) : Y G M_mo_leapsOf (0, 0) 0 (en_ M_mo_leapsOf [.ref 153, .int (nI c), .int (nI l)]) [] (LAY, m) (qm_ LAY (pu_ (nI (lps S c l th)) m)) := by
  change Y _ _ _ _ [some (.ref _), some (.int _), some (.int _), none, none, none, none, none, none, none] _ _ _
  have hn := (w.b c hc).2
  have hz := sz_16 hl
  have hz2 := sz_2 (l := l)
  have hk00 := (kM_K w hc hl hth hok (b := 0) (by omega) (s := 0) (by omega)).2.2
  refine Y_iconst 0 rfl (pc2 := 1) rfl (v := nI 0) (by decide) ?_
  refine Y_istore_n 1 rfl (pc2 := 2) rfl (Nat.le_of_ble_eq_true rfl) (ls2 := [some (.ref _), some (.int _), some (.int _), some (.int _), none, none, none, none, none, none]) rfl ?_
  refine Y_iconst 2 rfl (pc2 := 3) rfl (v := -1) (by decide) ?_
  refine Y_istore 3 rfl (pc2 := 5) rfl (Nat.le_of_ble_eq_true rfl) (ls2 := [some (.ref _), some (.int _), some (.int _), some (.int _), some (.int _), none, none, none, none, none]) rfl ?_
  refine Y_iconst 4 rfl (pc2 := 6) rfl (v := -1) (by decide) ?_
  refine Y_istore 5 rfl (pc2 := 8) rfl (Nat.le_of_ble_eq_true rfl) (ls2 := [some (.ref _), some (.int _), some (.int _), some (.int _), some (.int _), some (.int _), none, none, none, none]) rfl ?_
  refine Y_iconst 6 rfl (pc2 := 9) rfl (v := nI 0) (by decide) ?_
  refine Y_istore 7 rfl (pc2 := 11) rfl (Nat.le_of_ble_eq_true rfl) (ls2 := [some (.ref _), some (.int _), some (.int _), some (.int _), some (.int _), some (.int _), some (.int _), none, none, none]) rfl ?_
  refine Y_iload 8 rfl (pc2 := 13) rfl rfl ?_
  refine Y_aload_n 9 rfl (pc2 := 14) rfl rfl ?_
  refine Y_getR 10 rfl (pc2 := 17) rfl fl_mo_7 ly_mo (by decide) rfl rfl (by omega) ?_
  refine Y_iload_n 11 rfl (pc2 := 18) rfl rfl ?_
  refine Y_iald 12 rfl (pc2 := 19) rfl ly_mo_beats rfl (by omega) (by decide) ?_
  refine Y_top ((h.e (by decide) (by decide)).trans (w.b _ (by omega)).1) ?_
  refine Y_icmp_gen 13 rfl (pc2 := 22) rfl (tgt := 150) (by decide) (by omega) (by omega) (fun h19 => ?_) (fun h19 => ?_)
  · omega
  · have hf := hth _ (turn_lt (S := S) (c := c) (b := 0))
    have ht3 : turn S c 0 < 3 := turn_lt
    refine Y_aload_n 14 rfl (pc2 := 23) rfl rfl ?_
    refine Y_getR 15 rfl (pc2 := 26) rfl fl_mo_56 ly_mo (by decide) rfl rfl (by omega) ?_
    refine Y_aload_n 16 rfl (pc2 := 27) rfl rfl ?_
    refine Y_iload_n 17 rfl (pc2 := 28) rfl rfl ?_
    refine Y_iload 18 rfl (pc2 := 30) rfl rfl ?_
    refine Y_cV 19 rfl (pc2 := 33) rfl ok_mo_turn lk_mo_173 vi_mo_turn ly_mo rfl (by decide) rfl (as := [.int _, .int _]) (rest := [.ref _]) rfl rfl (T_mo_turn h w (by omega) (by omega)) ?_
    rintro _ _ ⟨rfl, rfl⟩
    change Y _ _ _ _ _ [.int _, .ref _] _ _
    refine Y_iald 20 rfl (pc2 := 34) rfl ly_mo_three rfl (by omega) (by decide) ?_
    refine Y_top (hch _ (by omega)) ?_
    refine Y_istore 21 rfl (pc2 := 36) rfl (Nat.le_of_ble_eq_true rfl) (ls2 := [some (.ref _), some (.int _), some (.int _), some (.int _), some (.int _), some (.int _), some (.int _), some (.int _), none, none]) rfl ?_
    refine Y_iconst 22 rfl (pc2 := 37) rfl (v := nI 0) (by decide) ?_
    refine Y_istore 23 rfl (pc2 := 39) rfl (Nat.le_of_ble_eq_true rfl) (ls2 := [some (.ref _), some (.int _), some (.int _), some (.int _), some (.int _), some (.int _), some (.int _), some (.int _), some (.int _), none]) rfl ?_
    refine Y_iload 24 rfl (pc2 := 41) rfl rfl ?_
    refine Y_iload_n 25 rfl (pc2 := 42) rfl rfl ?_
    refine Y_cS 26 rfl (pc2 := 45) rfl ok_mo_stepsOf lk_mo_127 vs_mo_stepsOf (as := [.int _]) (rest := [.int _]) rfl rfl (T_mo_stepsOf (by omega)) ?_
    rintro _ _ ⟨rfl, rfl⟩
    change Y _ _ _ _ _ [.int _, .int _] _ _
    refine Y_icmp_gen 27 rfl (pc2 := 48) rfl (tgt := 144) (by decide) (by omega) (by omega) (fun h45 => ?_) (fun h45 => ?_)
    · omega
    · refine Y_aload_n 28 rfl (pc2 := 49) rfl rfl ?_
      refine Y_iload_n 29 rfl (pc2 := 50) rfl rfl ?_
      refine Y_iload 30 rfl (pc2 := 52) rfl rfl ?_
      refine Y_iload_n 31 rfl (pc2 := 53) rfl rfl ?_
      refine Y_iload 32 rfl (pc2 := 55) rfl rfl ?_
      refine Y_iconst 33 rfl (pc2 := 56) rfl (v := nI 0) (by decide) ?_
      refine Y_iload 34 rfl (pc2 := 58) rfl rfl ?_
      refine Y_cV 35 rfl (pc2 := 61) rfl ok_mo_struck lk_mo_176 vi_mo_struck ly_mo rfl (by decide) rfl (as := [.int _, .int _, .int _, .int _, .int _, .int _]) (rest := []) rfl rfl (T_mo_struck h w hc (by omega) hl hf (by omega) (by omega)) ?_
      rintro _ _ ⟨rfl, rfl⟩
      change Y _ _ _ _ _ [.int _] _ _
      refine Y_istore 36 rfl (pc2 := 63) rfl (Nat.le_of_ble_eq_true rfl) (ls2 := [some (.ref _), some (.int _), some (.int _), some (.int _), some (.int _), some (.int _), some (.int _), some (.int _), some (.int _), some (.int _)]) rfl ?_
      refine Y_iload 37 rfl (pc2 := 65) rfl rfl ?_
      refine Y_if_ge 38 rfl (pc2 := 68) rfl (tgt := 84) (by decide) (fun h65 => ?_) (fun h65 => ?_)
      · refine Y_iload 48 rfl (pc2 := 86) rfl rfl ?_
        have hkk := kM_K w hc hl hth hok (b := 0) (s := 0) (by omega) (by omega)
        refine Y_top (show _ = nI (Kb S c l th 0 0) from by first | exact hkk.1 (Int32.not_le.mp h65) | exact hkk.2.1 (Int32.not_lt.mpr h65)) ?_
        refine Y_istore 49 rfl (pc2 := 88) rfl (Nat.le_of_ble_eq_true rfl) (ls2 := [some (.ref _), some (.int _), some (.int _), some (.int _), some (.int _), some (.int _), some (.int _), some (.int _), some (.int _), some (.int _)]) rfl ?_
        refine Y_iload_n 50 rfl (pc2 := 89) rfl rfl ?_
        refine Y_iload 51 rfl (pc2 := 91) rfl rfl ?_
        refine Y_if_ge 52 rfl (pc2 := 94) rfl (tgt := 98) (by decide) (fun h91 => ?_) (fun h91 => ?_)
        · exact absurd h91 (by decide)
        · refine Y_iconst 53 rfl (pc2 := 95) rfl (v := nI 0) (by decide) ?_
          refine Y_goto 54 rfl (pc2 := 118) (by decide) ?_
          refine Y_iadd 65 rfl (pc2 := 119) rfl ?_
          refine Y_top (nI_add _ _) ?_
          refine Y_istore_n 66 rfl (pc2 := 120) rfl (Nat.le_of_ble_eq_true rfl) (ls2 := [some (.ref _), some (.int _), some (.int _), some (.int _), some (.int _), some (.int _), some (.int _), some (.int _), some (.int _), some (.int _)]) rfl ?_
          refine Y_iload 67 rfl (pc2 := 122) rfl rfl ?_
          refine Y_if_ge 68 rfl (pc2 := 125) rfl (tgt := 130) (by decide) (fun h122 => ?_) (fun h122 => ?_)
          · exact absurd h122 (by decide)
          · refine Y_iload 69 rfl (pc2 := 127) rfl rfl ?_
            refine Y_goto 70 rfl (pc2 := 132) (by decide) ?_
            refine Y_istore 72 rfl (pc2 := 134) rfl (Nat.le_of_ble_eq_true rfl) (ls2 := [some (.ref _), some (.int _), some (.int _), some (.int _), some (.int _), some (.int _), some (.int _), some (.int _), some (.int _), some (.int _)]) rfl ?_
            refine Y_iload 73 rfl (pc2 := 136) rfl rfl ?_
            refine Y_istore 74 rfl (pc2 := 138) rfl (Nat.le_of_ble_eq_true rfl) (ls2 := [some (.ref _), some (.int _), some (.int _), some (.int _), some (.int _), some (.int _), some (.int _), some (.int _), some (.int _), some (.int _)]) rfl ?_
            refine Y_iinc 75 rfl (pc2 := 141) rfl rfl (nI_inc _ 1) (ls2 := [some (.ref _), some (.int _), some (.int _), some (.int _), some (.int _), some (.int _), some (.int _), some (.int _), some (.int _), some (.int _)]) rfl ?_
            refine Y_goto 76 rfl (pc2 := 39) (by decide) ?_
            have hz9 := L_lpI (G := G) h w hc hl hth hok hch (b := 0) (by omega) (fun u v x => L_lpO h w hc hl hth hok hch 1 (by omega) (by omega) u v x) 0 (Nat.zero_le _)
            exact hz9 _
      · refine Y_aload_n 39 rfl (pc2 := 69) rfl rfl ?_
        refine Y_iload_n 40 rfl (pc2 := 70) rfl rfl ?_
        refine Y_iload 41 rfl (pc2 := 72) rfl rfl ?_
        refine Y_iload_n 42 rfl (pc2 := 73) rfl rfl ?_
        refine Y_iload 43 rfl (pc2 := 75) rfl rfl ?_
        refine Y_iconst 44 rfl (pc2 := 76) rfl (v := nI 1) (by decide) ?_
        refine Y_iload 45 rfl (pc2 := 78) rfl rfl ?_
        refine Y_cV 46 rfl (pc2 := 81) rfl ok_mo_struck lk_mo_176 vi_mo_struck ly_mo rfl (by decide) rfl (as := [.int _, .int _, .int _, .int _, .int _, .int _]) (rest := []) rfl rfl (T_mo_struck h w hc (by omega) hl hf (by omega) (by omega)) ?_
        rintro _ _ ⟨rfl, rfl⟩
        change Y _ _ _ _ _ [.int _] _ _
        refine Y_goto 47 rfl (pc2 := 86) (by decide) ?_
        have hkk := kM_K w hc hl hth hok (b := 0) (s := 0) (by omega) (by omega)
        refine Y_top (show _ = nI (Kb S c l th 0 0) from by first | exact hkk.1 (Int32.not_le.mp h65) | exact hkk.2.1 (Int32.not_lt.mpr h65)) ?_
        refine Y_istore 49 rfl (pc2 := 88) rfl (Nat.le_of_ble_eq_true rfl) (ls2 := [some (.ref _), some (.int _), some (.int _), some (.int _), some (.int _), some (.int _), some (.int _), some (.int _), some (.int _), some (.int _)]) rfl ?_
        refine Y_iload_n 50 rfl (pc2 := 89) rfl rfl ?_
        refine Y_iload 51 rfl (pc2 := 91) rfl rfl ?_
        refine Y_if_ge 52 rfl (pc2 := 94) rfl (tgt := 98) (by decide) (fun h91 => ?_) (fun h91 => ?_)
        · exact absurd h91 (by decide)
        · refine Y_iconst 53 rfl (pc2 := 95) rfl (v := nI 0) (by decide) ?_
          refine Y_goto 54 rfl (pc2 := 118) (by decide) ?_
          refine Y_iadd 65 rfl (pc2 := 119) rfl ?_
          refine Y_top (nI_add _ _) ?_
          refine Y_istore_n 66 rfl (pc2 := 120) rfl (Nat.le_of_ble_eq_true rfl) (ls2 := [some (.ref _), some (.int _), some (.int _), some (.int _), some (.int _), some (.int _), some (.int _), some (.int _), some (.int _), some (.int _)]) rfl ?_
          refine Y_iload 67 rfl (pc2 := 122) rfl rfl ?_
          refine Y_if_ge 68 rfl (pc2 := 125) rfl (tgt := 130) (by decide) (fun h122 => ?_) (fun h122 => ?_)
          · exact absurd h122 (by decide)
          · refine Y_iload 69 rfl (pc2 := 127) rfl rfl ?_
            refine Y_goto 70 rfl (pc2 := 132) (by decide) ?_
            refine Y_istore 72 rfl (pc2 := 134) rfl (Nat.le_of_ble_eq_true rfl) (ls2 := [some (.ref _), some (.int _), some (.int _), some (.int _), some (.int _), some (.int _), some (.int _), some (.int _), some (.int _), some (.int _)]) rfl ?_
            refine Y_iload 73 rfl (pc2 := 136) rfl rfl ?_
            refine Y_istore 74 rfl (pc2 := 138) rfl (Nat.le_of_ble_eq_true rfl) (ls2 := [some (.ref _), some (.int _), some (.int _), some (.int _), some (.int _), some (.int _), some (.int _), some (.int _), some (.int _), some (.int _)]) rfl ?_
            refine Y_iinc 75 rfl (pc2 := 141) rfl rfl (nI_inc _ 1) (ls2 := [some (.ref _), some (.int _), some (.int _), some (.int _), some (.int _), some (.int _), some (.int _), some (.int _), some (.int _), some (.int _)]) rfl ?_
            refine Y_goto 76 rfl (pc2 := 39) (by decide) ?_
            have hz9 := L_lpI (G := G) h w hc hl hth hok hch (b := 0) (by omega) (fun u v x => L_lpO h w hc hl hth hok hch 1 (by omega) (by omega) u v x) 0 (Nat.zero_le _)
            exact hz9 _

set_option maxHeartbeats 400000 in
theorem dig_555 {n : Nat} (h : dig n) : n < 556 := by
  obtain ⟨a, b, c⟩ := h
  omega
def okA (S : Mm) (l : Nat) (th : Nat → Nat) (i : Nat) : Prop := ∀ j, j < i → okF S l (th j)
set_option maxHeartbeats 400000 in
theorem RM_169 {m S : Mm} {k : Nat} {v : Int32} (h : RM m S) : RM (uw_ m 169 k v) S := RM_h h (by decide)

set_option maxHeartbeats 400000 in
theorem L_leapsM {G : Nat × (Nat → Int32)} {m : Mm} {S : Mm} (h : RM m S) (w : WF S) {c l n : Nat} (hc : c < 4) (hl : l < 4) (hn : n < 556) (hch : ∀ i, i < 3 → m 169 i = nI ((th3 (n / 100) (n / 10 % 10) (n % 10)) i)) : ∀ i, i ≤ 3 → (∀ j, j < i → (th3 (n / 100) (n / 10 % 10) (n % 10)) j < 6) → Y G M_mo_leaps (0, 0) 69 [some (.ref 153), some (.int (nI c)), some (.int (nI l)), some (.int (nI n)), some (.int (bI (okA S l (th3 (n / 100) (n / 10 % 10) (n % 10)) i))), some (.int (nI i))] [] (LAY, m) (qm_ LAY (pu_ (sp_leaps S (nI c) (nI l) (nI n)) m)) := by
  refine ind_ (fun i hi ih hlt => ?_)
  refine Y_iload 42 rfl (pc2 := 71) rfl rfl ?_
  refine Y_iconst 43 rfl (pc2 := 72) rfl (v := nI 3) (by decide) ?_
  refine Y_icmp_gen 44 rfl (pc2 := 75) rfl (tgt := 123) (by decide) (by omega) (by omega) (fun h72 => ?_) (fun h72 => ?_)
  · refine Y_iload 69 rfl (pc2 := 125) rfl rfl ?_
    refine Y_if_eqb 70 rfl (pc2 := 128) rfl (tgt := 137) (by decide) (fun h125 => ?_) (fun h125 => ?_)
    · refine Y_ldc 76 rfl (pc2 := 139) rfl kc_mo_111 ?_
      refine Y_iret 77 rfl rfl rfl ⟨rfl, ?_⟩
      dsimp only
      have hi3 : i = 3 := by omega
      subst hi3
      have hdig : dig n := ⟨hlt 0 (by omega), hlt 1 (by omega), hlt 2 (by omega)⟩
      refine pu_i ?_
      unfold sp_leaps
      rw [cI_t ⟨⟨c, hc, rfl⟩, ⟨l, hl, rfl⟩, nI_pos' (by omega), by rw [nv_nI (by omega)]; exact hdig⟩, nv_nI (k := c) (by omega), nv_nI (k := l) (by omega), nv_nI (k := n) (by omega)]
      rw [cI_f (fun z => h125 (fun j hj => by
        have hj3 : j = 0 ∨ j = 1 ∨ j = 2 := by omega
        rcases hj3 with rfl | rfl | rfl
        · exact z.1
        · exact z.2.1
        · exact z.2.2))]
      rfl
    · have hok3 : okA S l (th3 (n / 100) (n / 10 % 10) (n % 10)) 3 := fun j hj => h125 j (by omega)
      refine Y_aload_n 71 rfl (pc2 := 129) rfl rfl ?_
      refine Y_iload_n 72 rfl (pc2 := 130) rfl rfl ?_
      refine Y_iload_n 73 rfl (pc2 := 131) rfl rfl ?_
      refine Y_cV 74 rfl (pc2 := 134) rfl ok_mo_leapsOf lk_mo_187 vi_mo_leapsOf ly_mo rfl (by decide) rfl (as := [.int _, .int _]) (rest := []) rfl rfl (T_mo_leapsOf (th := th3 (n / 100) (n / 10 % 10) (n % 10)) h w hc hl (fun i _ => hlt i (by omega)) (fun i hi => h125 i (by omega)) hch) ?_
      rintro _ _ ⟨rfl, rfl⟩
      change Y _ _ _ _ _ [.int _] _ _
      refine Y_goto 75 rfl (pc2 := 139) (by decide) ?_
      refine Y_iret 77 rfl rfl rfl ⟨rfl, ?_⟩
      dsimp only
      have hi3 : i = 3 := by omega
      subst hi3
      have hdig : dig n := ⟨hlt 0 (by omega), hlt 1 (by omega), hlt 2 (by omega)⟩
      refine pu_i ?_
      unfold sp_leaps
      rw [cI_t ⟨⟨c, hc, rfl⟩, ⟨l, hl, rfl⟩, nI_pos' (by omega), by rw [nv_nI (by omega)]; exact hdig⟩, nv_nI (k := c) (by omega), nv_nI (k := l) (by omega), nv_nI (k := n) (by omega)]
      rw [cI_t ⟨h125 0 (by omega), h125 1 (by omega), h125 2 (by omega)⟩]
  · have ht10 : th3 (n / 100) (n / 10 % 10) (n % 10) i < 10 := th3_lt (by omega) (by omega) (by omega)
    refine Y_aload_n 45 rfl (pc2 := 76) rfl rfl ?_
    refine Y_getR 46 rfl (pc2 := 79) rfl fl_mo_56 ly_mo (by decide) rfl rfl (by omega) ?_
    refine Y_iload 47 rfl (pc2 := 81) rfl rfl ?_
    refine Y_iald 48 rfl (pc2 := 82) rfl ly_mo_three rfl (by omega) (by decide) ?_
    refine Y_top (hch _ (by omega)) ?_
    refine Y_bipush 49 rfl (pc2 := 84) rfl (v := nI 6) (by decide) ?_
    refine Y_icmp_ltn 50 rfl (pc2 := 87) rfl (tgt := 90) (by decide) (by omega) (by omega) (fun h84 => ?_) (fun h84 => ?_)
    · refine Y_iload 53 rfl (pc2 := 92) rfl rfl ?_
      refine Y_if_eqb 54 rfl (pc2 := 95) rfl (tgt := 114) (by decide) (fun h92 => ?_) (fun h92 => ?_)
      · refine Y_iconst 65 rfl (pc2 := 115) rfl (v := nI 0) (by decide) ?_
        refine Y_istore 66 rfl (pc2 := 117) rfl (Nat.le_of_ble_eq_true rfl) (ls2 := [some (.ref _), some (.int _), some (.int _), some (.int _), some (.int _), some (.int _)]) rfl ?_
        refine Y_iinc 67 rfl (pc2 := 120) rfl rfl (nI_inc _ 1) (ls2 := [some (.ref _), some (.int _), some (.int _), some (.int _), some (.int _), some (.int _)]) rfl ?_
        refine Y_goto 68 rfl (pc2 := 69) (by decide) ?_
        first
          | exact Y_ls (by rw [bI_t (p := okA S l (th3 (n / 100) (n / 10 % 10) (n % 10)) (i + 1)) (fun j hj => if e : j < i then h92 j e else by rw [show j = i by omega]; exact (wM_neg hl).mp (Int32.not_le.mp h107))]; rfl) (ih (i + 1) (by omega) (by omega) (fun j hj => if e : j < i then hlt j e else by rw [show j = i by omega]; omega))
          | exact Y_ls (by rw [bI_f (p := okA S l (th3 (n / 100) (n / 10 % 10) (n % 10)) (i + 1)) (fun z => Int32.not_lt.mpr h107 ((wM_neg hl).mpr (z i (by omega))))]; rfl) (ih (i + 1) (by omega) (by omega) (fun j hj => if e : j < i then hlt j e else by rw [show j = i by omega]; omega))
          | exact Y_ls (by rw [bI_f (p := okA S l (th3 (n / 100) (n / 10 % 10) (n % 10)) (i + 1)) (fun z => h92 (fun j hj => z j (by omega)))]; rfl) (ih (i + 1) (by omega) (by omega) (fun j hj => if e : j < i then hlt j e else by rw [show j = i by omega]; omega))
      · refine Y_aload_n 55 rfl (pc2 := 96) rfl rfl ?_
        refine Y_iload_n 56 rfl (pc2 := 97) rfl rfl ?_
        refine Y_aload_n 57 rfl (pc2 := 98) rfl rfl ?_
        refine Y_getR 58 rfl (pc2 := 101) rfl fl_mo_56 ly_mo (by decide) rfl rfl (by omega) ?_
        refine Y_iload 59 rfl (pc2 := 103) rfl rfl ?_
        refine Y_iald 60 rfl (pc2 := 104) rfl ly_mo_three rfl (by omega) (by decide) ?_
        refine Y_top (hch _ (by omega)) ?_
        refine Y_cV 61 rfl (pc2 := 107) rfl ok_mo_wrongStep lk_mo_143 vi_mo_wrongStep ly_mo rfl (by decide) rfl (as := [.int _, .int _]) (rest := []) rfl rfl (T_mo_wrongStep h w (by omega) (by omega)) ?_
        rintro _ _ ⟨rfl, rfl⟩
        change Y _ _ _ _ _ [.int _] _ _
        refine Y_if_ge 62 rfl (pc2 := 110) rfl (tgt := 114) (by decide) (fun h107 => ?_) (fun h107 => ?_)
        · refine Y_iconst 65 rfl (pc2 := 115) rfl (v := nI 0) (by decide) ?_
          refine Y_istore 66 rfl (pc2 := 117) rfl (Nat.le_of_ble_eq_true rfl) (ls2 := [some (.ref _), some (.int _), some (.int _), some (.int _), some (.int _), some (.int _)]) rfl ?_
          refine Y_iinc 67 rfl (pc2 := 120) rfl rfl (nI_inc _ 1) (ls2 := [some (.ref _), some (.int _), some (.int _), some (.int _), some (.int _), some (.int _)]) rfl ?_
          refine Y_goto 68 rfl (pc2 := 69) (by decide) ?_
          first
            | exact Y_ls (by rw [bI_t (p := okA S l (th3 (n / 100) (n / 10 % 10) (n % 10)) (i + 1)) (fun j hj => if e : j < i then h92 j e else by rw [show j = i by omega]; exact (wM_neg hl).mp (Int32.not_le.mp h107))]; rfl) (ih (i + 1) (by omega) (by omega) (fun j hj => if e : j < i then hlt j e else by rw [show j = i by omega]; omega))
            | exact Y_ls (by rw [bI_f (p := okA S l (th3 (n / 100) (n / 10 % 10) (n % 10)) (i + 1)) (fun z => Int32.not_lt.mpr h107 ((wM_neg hl).mpr (z i (by omega))))]; rfl) (ih (i + 1) (by omega) (by omega) (fun j hj => if e : j < i then hlt j e else by rw [show j = i by omega]; omega))
            | exact Y_ls (by rw [bI_f (p := okA S l (th3 (n / 100) (n / 10 % 10) (n % 10)) (i + 1)) (fun z => h92 (fun j hj => z j (by omega)))]; rfl) (ih (i + 1) (by omega) (by omega) (fun j hj => if e : j < i then hlt j e else by rw [show j = i by omega]; omega))
        · refine Y_iconst 63 rfl (pc2 := 111) rfl (v := nI 1) (by decide) ?_
          refine Y_goto 64 rfl (pc2 := 115) (by decide) ?_
          refine Y_istore 66 rfl (pc2 := 117) rfl (Nat.le_of_ble_eq_true rfl) (ls2 := [some (.ref _), some (.int _), some (.int _), some (.int _), some (.int _), some (.int _)]) rfl ?_
          refine Y_iinc 67 rfl (pc2 := 120) rfl rfl (nI_inc _ 1) (ls2 := [some (.ref _), some (.int _), some (.int _), some (.int _), some (.int _), some (.int _)]) rfl ?_
          refine Y_goto 68 rfl (pc2 := 69) (by decide) ?_
          first
            | exact Y_ls (by rw [bI_t (p := okA S l (th3 (n / 100) (n / 10 % 10) (n % 10)) (i + 1)) (fun j hj => if e : j < i then h92 j e else by rw [show j = i by omega]; exact (wM_neg hl).mp (Int32.not_le.mp h107))]; rfl) (ih (i + 1) (by omega) (by omega) (fun j hj => if e : j < i then hlt j e else by rw [show j = i by omega]; omega))
            | exact Y_ls (by rw [bI_f (p := okA S l (th3 (n / 100) (n / 10 % 10) (n % 10)) (i + 1)) (fun z => Int32.not_lt.mpr h107 ((wM_neg hl).mpr (z i (by omega))))]; rfl) (ih (i + 1) (by omega) (by omega) (fun j hj => if e : j < i then hlt j e else by rw [show j = i by omega]; omega))
            | exact Y_ls (by rw [bI_f (p := okA S l (th3 (n / 100) (n / 10 % 10) (n % 10)) (i + 1)) (fun z => h92 (fun j hj => z j (by omega)))]; rfl) (ih (i + 1) (by omega) (by omega) (fun j hj => if e : j < i then hlt j e else by rw [show j = i by omega]; omega))
    · refine Y_ldc 51 rfl (pc2 := 89) rfl kc_mo_79 ?_
      refine Y_iret 52 rfl rfl rfl ⟨rfl, ?_⟩
      dsimp only
      refine pu_i ?_
      unfold sp_leaps
      rw [cI_f (fun e => ?_)]
      · rfl
      · have d := e.2.2.2
        rw [nv_nI (by omega)] at d
        have := th3_all (P := fun z => z < 6) d.1 d.2.1 d.2.2 i
        omega

set_option maxHeartbeats 400000 in
theorem T_mo_leaps {G : Nat × (Nat → Int32)} {m : Mm} {S : Mm} (h : RM m S) (w : WF S) {x y z : Int32} : Y G M_mo_leaps (0, 0) 0 (en_ M_mo_leaps [.ref (153), .int (x), .int (y), .int (z)]) [] (LAY, m) (qm_ LAY (pm_ (sp_leaps S x y z) m S)) := by
  change Y _ _ _ _ [some (.ref _), some (.int _), some (.int _), some (.int _), none, none] _ _ _
  refine Y_iload_n 0 rfl (pc2 := 1) rfl rfl ?_
  refine Y_cS 1 rfl (pc2 := 4) rfl ok_mo_isCircle lk_mo_66 vs_mo_isCircle (as := [.int _]) (rest := []) rfl rfl T_mo_isCircle ?_
  rintro _ _ ⟨rfl, rfl⟩
  change Y _ _ _ _ _ [.int _] _ _
  refine Y_if_eqb 2 rfl (pc2 := 7) rfl (tgt := 27) (by decide) (fun h4 => ?_) (fun h4 => ?_)
  · refine Y_ldc 13 rfl (pc2 := 29) rfl kc_mo_79 ?_
    refine Y_iret 14 rfl rfl rfl ⟨rfl, ?_⟩
    dsimp only
    first | exact pm_0 h (by unfold sp_leaps; rw [cI_f (fun e => h4 e.1)]; rfl) | exact pm_0 h (by unfold sp_leaps; rw [cI_f (fun e => h13 e.2.1)]; rfl) | exact pm_0 h (by unfold sp_leaps; rw [cI_f (fun e => h24 (by obtain ⟨j, hj, rfl⟩ := nI_of (Int32.not_lt.mpr e.2.2.1); have d := e.2.2.2; rw [nv_nI hj] at d; exact ⟨j, dig_555 d, rfl⟩))]; rfl)
  · refine Y_iload_n 3 rfl (pc2 := 8) rfl rfl ?_
    refine Y_iconst 4 rfl (pc2 := 9) rfl (v := nI 0) (by decide) ?_
    refine Y_iconst 5 rfl (pc2 := 10) rfl (v := nI 3) (by decide) ?_
    refine Y_cS 6 rfl (pc2 := 13) rfl ok_mo_isIn lk_mo_62 vs_mo_isIn (as := [.int _, .int _, .int _]) (rest := []) rfl rfl (T_mo_isIn0 (by omega)) ?_
    rintro _ _ ⟨rfl, rfl⟩
    change Y _ _ _ _ _ [.int _] _ _
    refine Y_if_eqb 7 rfl (pc2 := 16) rfl (tgt := 27) (by decide) (fun h13 => ?_) (fun h13 => ?_)
    · refine Y_ldc 13 rfl (pc2 := 29) rfl kc_mo_79 ?_
      refine Y_iret 14 rfl rfl rfl ⟨rfl, ?_⟩
      dsimp only
      first | exact pm_0 h (by unfold sp_leaps; rw [cI_f (fun e => h4 e.1)]; rfl) | exact pm_0 h (by unfold sp_leaps; rw [cI_f (fun e => h13 e.2.1)]; rfl) | exact pm_0 h (by unfold sp_leaps; rw [cI_f (fun e => h24 (by obtain ⟨j, hj, rfl⟩ := nI_of (Int32.not_lt.mpr e.2.2.1); have d := e.2.2.2; rw [nv_nI hj] at d; exact ⟨j, dig_555 d, rfl⟩))]; rfl)
    · refine Y_iload_n 8 rfl (pc2 := 17) rfl rfl ?_
      refine Y_iconst 9 rfl (pc2 := 18) rfl (v := nI 0) (by decide) ?_
      refine Y_sipush 10 rfl (pc2 := 21) rfl (v := nI 555) (by decide) ?_
      refine Y_cS 11 rfl (pc2 := 24) rfl ok_mo_isIn lk_mo_62 vs_mo_isIn (as := [.int _, .int _, .int _]) (rest := []) rfl rfl (T_mo_isIn0 (by omega)) ?_
      rintro _ _ ⟨rfl, rfl⟩
      change Y _ _ _ _ _ [.int _] _ _
      refine Y_if_neb 12 rfl (pc2 := 27) rfl (tgt := 30) (by decide) (fun h24 => ?_) (fun h24 => ?_)
      · obtain ⟨c, hc, rfl⟩ := h4
        obtain ⟨l, hl, rfl⟩ := h13
        obtain ⟨n, hn, rfl⟩ := h24
        refine Y_aload_n 15 rfl (pc2 := 31) rfl rfl ?_
        refine Y_getR 16 rfl (pc2 := 34) rfl fl_mo_56 ly_mo (by decide) rfl rfl (by omega) ?_
        refine Y_iconst 17 rfl (pc2 := 35) rfl (v := nI 0) (by decide) ?_
        refine Y_iload_n 18 rfl (pc2 := 36) rfl rfl ?_
        refine Y_bipush 19 rfl (pc2 := 38) rfl (v := nI 100) (by decide) ?_
        refine Y_idiv 20 rfl (pc2 := 39) rfl (by exact nI_ne0 (by omega) (by omega)) ?_
        refine Y_top (nI_div (by omega) (by omega)) ?_
        refine Y_iast 21 rfl (pc2 := 40) rfl ly_mo_three rfl (by omega) (by decide) rfl ?_
        refine Y_aload_n 22 rfl (pc2 := 41) rfl rfl ?_
        refine Y_getR 23 rfl (pc2 := 44) rfl fl_mo_56 ly_mo (by decide) rfl rfl (by omega) ?_
        refine Y_iconst 24 rfl (pc2 := 45) rfl (v := nI 1) (by decide) ?_
        refine Y_iload_n 25 rfl (pc2 := 46) rfl rfl ?_
        refine Y_bipush 26 rfl (pc2 := 48) rfl (v := nI 10) (by decide) ?_
        refine Y_idiv 27 rfl (pc2 := 49) rfl (by exact nI_ne0 (by omega) (by omega)) ?_
        refine Y_top (nI_div (by omega) (by omega)) ?_
        refine Y_bipush 28 rfl (pc2 := 51) rfl (v := nI 10) (by decide) ?_
        refine Y_irem 29 rfl (pc2 := 52) rfl (by exact nI_ne0 (by omega) (by omega)) ?_
        refine Y_top (nI_rem (by omega) (by omega)) ?_
        refine Y_iast 30 rfl (pc2 := 53) rfl ly_mo_three rfl (by omega) (by decide) rfl ?_
        refine Y_aload_n 31 rfl (pc2 := 54) rfl rfl ?_
        refine Y_getR 32 rfl (pc2 := 57) rfl fl_mo_56 ly_mo (by decide) rfl rfl (by omega) ?_
        refine Y_iconst 33 rfl (pc2 := 58) rfl (v := nI 2) (by decide) ?_
        refine Y_iload_n 34 rfl (pc2 := 59) rfl rfl ?_
        refine Y_bipush 35 rfl (pc2 := 61) rfl (v := nI 10) (by decide) ?_
        refine Y_irem 36 rfl (pc2 := 62) rfl (by exact nI_ne0 (by omega) (by omega)) ?_
        refine Y_top (nI_rem (by omega) (by omega)) ?_
        refine Y_iast 37 rfl (pc2 := 63) rfl ly_mo_three rfl (by omega) (by decide) rfl ?_
        generalize hm2 : uw_ (uw_ (uw_ m 169 0 (nI (n / 100))) 169 1 (nI (n / 10 % 10))) 169 2 (nI (n % 10)) = m2
        have hch : ∀ i, i < 3 → m2 169 i = nI (th3 (n / 100) (n / 10 % 10) (n % 10) i) := by
          intro i hi
          have hi3 : i = 0 ∨ i = 1 ∨ i = 2 := by omega
          rw [← hm2]
          rcases hi3 with rfl | rfl | rfl
          · rw [uw_ne (by omega), uw_ne (by omega), uw_same]; rfl
          · rw [uw_ne (by omega), uw_same]; rfl
          · rw [uw_same]; rfl
        have h2 : RM m2 S := by rw [← hm2]; exact RM_169 (RM_169 (RM_169 h))
        have hfr : ∀ a, a < 153 → m2 a = m a := fun a ha => by rw [← hm2]; funext k; rw [uw_ne (by omega), uw_ne (by omega), uw_ne (by omega)]
        refine Y_iconst 38 rfl (pc2 := 64) rfl (v := nI 1) (by decide) ?_
        refine Y_istore 39 rfl (pc2 := 66) rfl (Nat.le_of_ble_eq_true rfl) (ls2 := [some (.ref _), some (.int _), some (.int _), some (.int _), some (.int _), none]) rfl ?_
        refine Y_iconst 40 rfl (pc2 := 67) rfl (v := nI 0) (by decide) ?_
        refine Y_istore 41 rfl (pc2 := 69) rfl (Nat.le_of_ble_eq_true rfl) (ls2 := [some (.ref _), some (.int _), some (.int _), some (.int _), some (.int _), some (.int _)]) rfl ?_
        refine Y_ls (ls2 := [some (.ref 153), some (.int (nI c)), some (.int (nI l)), some (.int (nI n)), some (.int (bI (okA S l (th3 (n / 100) (n / 10 % 10) (n % 10)) 0))), some (.int (nI 0))]) (by rw [bI_t (p := okA S l (th3 (n / 100) (n / 10 % 10) (n % 10)) 0) (fun j hj => absurd hj (Nat.not_lt_zero j))]; rfl) ?_
        exact (L_leapsM h2 w hc hl (by omega) hch 0 (Nat.zero_le _) (fun j hj => absurd hj (Nat.not_lt_zero j))).mono (fun v σ hq => ⟨hq.1, hq.2.1, by rw [← hq.2.2]; exact h2, fun a ha => by rw [← hq.2.2]; exact hfr a ha⟩)
      · refine Y_ldc 13 rfl (pc2 := 29) rfl kc_mo_79 ?_
        refine Y_iret 14 rfl rfl rfl ⟨rfl, ?_⟩
        dsimp only
        first | exact pm_0 h (by unfold sp_leaps; rw [cI_f (fun e => h4 e.1)]; rfl) | exact pm_0 h (by unfold sp_leaps; rw [cI_f (fun e => h13 e.2.1)]; rfl) | exact pm_0 h (by unfold sp_leaps; rw [cI_f (fun e => h24 (by obtain ⟨j, hj, rfl⟩ := nI_of (Int32.not_lt.mpr e.2.2.1); have d := e.2.2.2; rw [nv_nI hj] at d; exact ⟨j, dig_555 d, rfl⟩))]; rfl)

def bL0 (q : Option (Nat × Nat)) : Int32 := match q with
  | none => nI 0
  | some p => nI p.1
set_option maxHeartbeats 400000 in
theorem nI_no {k : Nat} (h : k < 2 ^ 31) : ¬ nI k = -1000000002 := fun e => by
  have : nI k < 0 := by rw [e]; decide
  exact absurd this (nI_pos h)

set_option maxHeartbeats 400000 in
theorem bst_cd {S : Mm} {c l : Nat} : ∀ k, k ≤ 216 → ∀ q, bst S c l k = some q → q.2 < 1000
  | 0, _, q, h => by cases h
  | k + 1, hk, q, h => by
    by_cases u : us3 S l k
    · cases e : bst S c l k with
      | none => rw [bst_new u e] at h; cases h; show cd3 k < 1000; unfold cd3; omega
      | some p =>
        by_cases hlt : vk S c l k < p.1
        · rw [bst_lt u e hlt] at h; cases h; show cd3 k < 1000; unfold cd3; omega
        · rw [bst_ge u e hlt] at h; cases h; exact bst_cd k (by omega) _ e
    · rw [bst_no u] at h
      exact bst_cd k (by omega) q h
set_option maxHeartbeats 400000 in
theorem L_choiceM {G : Nat × (Nat → Int32)} {m S : Mm} (w : WF S) {c l : Nat} (hc : c < 4) (hl : l < 4) : ∀ k, k ≤ 216 → ∀ m1, RM m1 S → (∀ a, a < 153 → m1 a = m a) → ∀ (u : Option Value), Y G M_mo_choice (0, 0) 28 [some (.ref 153), some (.int (nI c)), some (.int (nI l)), some (.int (bB (bst S c l k))), some (.int (bL0 (bst S c l k))), some (.int (nI k)), u] [] (LAY, m1) (qm_ LAY (pm_ (bB (bst S c l 216)) m S)) := by
  refine ind_ (fun k hk ih m1 h hf1 u => ?_)
  cases hb : bst S c l k with
  | none =>
    change Y _ _ _ _ [_, _, _, some (.int NO_), some (.int (nI 0)), _, _] _ _ _
    refine Y_iload 16 rfl (pc2 := 30) rfl rfl ?_
    refine Y_sipush 17 rfl (pc2 := 33) rfl (v := nI 216) (by decide) ?_
    refine Y_icmp_gen 18 rfl (pc2 := 36) rfl (tgt := 172) (by decide) (by omega) (by omega) (fun h33 => ?_) (fun h33 => ?_)
    · refine Y_iload_n 100 rfl (pc2 := 173) rfl rfl ?_
      refine Y_iret 101 rfl rfl rfl ⟨rfl, ?_⟩
      dsimp only
      exact ⟨by rw [show 216 = k by omega, hb]; rfl, h, hf1⟩
    · refine Y_aload_n 19 rfl (pc2 := 37) rfl rfl ?_
      refine Y_getR 20 rfl (pc2 := 40) rfl fl_mo_56 ly_mo (by decide) rfl rfl (by omega) ?_
      refine Y_iconst 21 rfl (pc2 := 41) rfl (v := nI 0) (by decide) ?_
      refine Y_iload 22 rfl (pc2 := 43) rfl rfl ?_
      refine Y_bipush 23 rfl (pc2 := 45) rfl (v := nI 36) (by decide) ?_
      refine Y_idiv 24 rfl (pc2 := 46) rfl (by exact nI_ne0 (by omega) (by omega)) ?_
      refine Y_top (nI_div (by omega) (by omega)) ?_
      refine Y_iast 25 rfl (pc2 := 47) rfl ly_mo_three rfl (by omega) (by decide) rfl ?_
      refine Y_aload_n 26 rfl (pc2 := 48) rfl rfl ?_
      refine Y_getR 27 rfl (pc2 := 51) rfl fl_mo_56 ly_mo (by decide) rfl rfl (by omega) ?_
      refine Y_iconst 28 rfl (pc2 := 52) rfl (v := nI 1) (by decide) ?_
      refine Y_iload 29 rfl (pc2 := 54) rfl rfl ?_
      refine Y_bipush 30 rfl (pc2 := 56) rfl (v := nI 6) (by decide) ?_
      refine Y_idiv 31 rfl (pc2 := 57) rfl (by exact nI_ne0 (by omega) (by omega)) ?_
      refine Y_top (nI_div (by omega) (by omega)) ?_
      refine Y_bipush 32 rfl (pc2 := 59) rfl (v := nI 6) (by decide) ?_
      refine Y_irem 33 rfl (pc2 := 60) rfl (by exact nI_ne0 (by omega) (by omega)) ?_
      refine Y_top (nI_rem (by omega) (by omega)) ?_
      refine Y_iast 34 rfl (pc2 := 61) rfl ly_mo_three rfl (by omega) (by decide) rfl ?_
      refine Y_aload_n 35 rfl (pc2 := 62) rfl rfl ?_
      refine Y_getR 36 rfl (pc2 := 65) rfl fl_mo_56 ly_mo (by decide) rfl rfl (by omega) ?_
      refine Y_iconst 37 rfl (pc2 := 66) rfl (v := nI 2) (by decide) ?_
      refine Y_iload 38 rfl (pc2 := 68) rfl rfl ?_
      refine Y_bipush 39 rfl (pc2 := 70) rfl (v := nI 6) (by decide) ?_
      refine Y_irem 40 rfl (pc2 := 71) rfl (by exact nI_ne0 (by omega) (by omega)) ?_
      refine Y_top (nI_rem (by omega) (by omega)) ?_
      refine Y_iast 41 rfl (pc2 := 72) rfl ly_mo_three rfl (by omega) (by decide) rfl ?_
      generalize hm2 : uw_ (uw_ (uw_ m1 169 0 (nI (k / 36))) 169 1 (nI (k / 6 % 6))) 169 2 (nI (k % 6)) = m2
      have hch : ∀ i, i < 3 → m2 169 i = nI (th3 (k / 36) (k / 6 % 6) (k % 6) i) := by
        intro i hi
        have hi3 : i = 0 ∨ i = 1 ∨ i = 2 := by omega
        rw [← hm2]
        rcases hi3 with rfl | rfl | rfl
        · rw [uw_ne (by omega), uw_ne (by omega), uw_same]; rfl
        · rw [uw_ne (by omega), uw_same]; rfl
        · rw [uw_same]; rfl
      have h2 : RM m2 S := by rw [← hm2]; exact RM_169 (RM_169 (RM_169 h))
      have hfr : ∀ a, a < 153 → m2 a = m1 a := fun a ha => by rw [← hm2]; funext k; rw [uw_ne (by omega), uw_ne (by omega), uw_ne (by omega)]
      refine Y_aload_n 42 rfl (pc2 := 73) rfl rfl ?_
      refine Y_iload_n 43 rfl (pc2 := 74) rfl rfl ?_
      refine Y_aload_n 44 rfl (pc2 := 75) rfl rfl ?_
      refine Y_getR 45 rfl (pc2 := 78) rfl fl_mo_56 ly_mo (by decide) rfl rfl (by omega) ?_
      refine Y_iconst 46 rfl (pc2 := 79) rfl (v := nI 0) (by decide) ?_
      refine Y_iald 47 rfl (pc2 := 80) rfl ly_mo_three rfl (by omega) (by decide) ?_
      refine Y_top (hch _ (by omega)) ?_
      refine Y_cV 48 rfl (pc2 := 83) rfl ok_mo_wrongStep lk_mo_143 vi_mo_wrongStep ly_mo rfl (by decide) rfl (as := [.int _, .int _]) (rest := []) rfl rfl (T_mo_wrongStep h2 w hl (by show k / 36 < 6; omega)) ?_
      rintro _ _ ⟨rfl, rfl⟩
      change Y _ _ _ _ _ [.int _] _ _
      refine Y_if_ge 49 rfl (pc2 := 86) rfl (tgt := 166) (by decide) (fun h83 => ?_) (fun h83 => ?_)
      · refine Y_iinc 98 rfl (pc2 := 169) rfl rfl (nI_inc _ 1) (ls2 := [some (.ref _), some (.int _), some (.int _), some (.int _), some (.int _), some (.int _), _]) rfl ?_
        refine Y_goto 99 rfl (pc2 := 28) (by decide) ?_
        have hi := ih (k + 1) (by omega) (by omega) m2 h2 (fun a ha => (hfr a ha).trans (hf1 a ha))
        first
          | exact (by
              rw [bst_no (by rintro ⟨p1, p2, p3⟩; first | exact Int32.not_lt.mpr h83 ((wM_neg hl).mpr p1) | exact Int32.not_lt.mpr h97 ((wM_neg hl).mpr p2) | exact Int32.not_lt.mpr h111 ((wM_neg hl).mpr p3)), hb] at hi
              exact hi _)
          | exact (by
              rw [bst_new u3 hb] at hi
              exact hi _)
      · refine Y_aload_n 50 rfl (pc2 := 87) rfl rfl ?_
        refine Y_iload_n 51 rfl (pc2 := 88) rfl rfl ?_
        refine Y_aload_n 52 rfl (pc2 := 89) rfl rfl ?_
        refine Y_getR 53 rfl (pc2 := 92) rfl fl_mo_56 ly_mo (by decide) rfl rfl (by omega) ?_
        refine Y_iconst 54 rfl (pc2 := 93) rfl (v := nI 1) (by decide) ?_
        refine Y_iald 55 rfl (pc2 := 94) rfl ly_mo_three rfl (by omega) (by decide) ?_
        refine Y_top (hch _ (by omega)) ?_
        refine Y_cV 56 rfl (pc2 := 97) rfl ok_mo_wrongStep lk_mo_143 vi_mo_wrongStep ly_mo rfl (by decide) rfl (as := [.int _, .int _]) (rest := []) rfl rfl (T_mo_wrongStep h2 w hl (by show k / 6 % 6 < 6; omega)) ?_
        rintro _ _ ⟨rfl, rfl⟩
        change Y _ _ _ _ _ [.int _] _ _
        refine Y_if_ge 57 rfl (pc2 := 100) rfl (tgt := 166) (by decide) (fun h97 => ?_) (fun h97 => ?_)
        · refine Y_iinc 98 rfl (pc2 := 169) rfl rfl (nI_inc _ 1) (ls2 := [some (.ref _), some (.int _), some (.int _), some (.int _), some (.int _), some (.int _), _]) rfl ?_
          refine Y_goto 99 rfl (pc2 := 28) (by decide) ?_
          have hi := ih (k + 1) (by omega) (by omega) m2 h2 (fun a ha => (hfr a ha).trans (hf1 a ha))
          first
            | exact (by
                rw [bst_no (by rintro ⟨p1, p2, p3⟩; first | exact Int32.not_lt.mpr h83 ((wM_neg hl).mpr p1) | exact Int32.not_lt.mpr h97 ((wM_neg hl).mpr p2) | exact Int32.not_lt.mpr h111 ((wM_neg hl).mpr p3)), hb] at hi
                exact hi _)
            | exact (by
                rw [bst_new u3 hb] at hi
                exact hi _)
        · refine Y_aload_n 58 rfl (pc2 := 101) rfl rfl ?_
          refine Y_iload_n 59 rfl (pc2 := 102) rfl rfl ?_
          refine Y_aload_n 60 rfl (pc2 := 103) rfl rfl ?_
          refine Y_getR 61 rfl (pc2 := 106) rfl fl_mo_56 ly_mo (by decide) rfl rfl (by omega) ?_
          refine Y_iconst 62 rfl (pc2 := 107) rfl (v := nI 2) (by decide) ?_
          refine Y_iald 63 rfl (pc2 := 108) rfl ly_mo_three rfl (by omega) (by decide) ?_
          refine Y_top (hch _ (by omega)) ?_
          refine Y_cV 64 rfl (pc2 := 111) rfl ok_mo_wrongStep lk_mo_143 vi_mo_wrongStep ly_mo rfl (by decide) rfl (as := [.int _, .int _]) (rest := []) rfl rfl (T_mo_wrongStep h2 w hl (by show k % 6 < 6; omega)) ?_
          rintro _ _ ⟨rfl, rfl⟩
          change Y _ _ _ _ _ [.int _] _ _
          refine Y_if_ge 65 rfl (pc2 := 114) rfl (tgt := 166) (by decide) (fun h111 => ?_) (fun h111 => ?_)
          · refine Y_iinc 98 rfl (pc2 := 169) rfl rfl (nI_inc _ 1) (ls2 := [some (.ref _), some (.int _), some (.int _), some (.int _), some (.int _), some (.int _), _]) rfl ?_
            refine Y_goto 99 rfl (pc2 := 28) (by decide) ?_
            have hi := ih (k + 1) (by omega) (by omega) m2 h2 (fun a ha => (hfr a ha).trans (hf1 a ha))
            first
              | exact (by
                  rw [bst_no (by rintro ⟨p1, p2, p3⟩; first | exact Int32.not_lt.mpr h83 ((wM_neg hl).mpr p1) | exact Int32.not_lt.mpr h97 ((wM_neg hl).mpr p2) | exact Int32.not_lt.mpr h111 ((wM_neg hl).mpr p3)), hb] at hi
                  exact hi _)
              | exact (by
                  rw [bst_new u3 hb] at hi
                  exact hi _)
          · have u3 : us3 S l k := ⟨(wM_neg hl).mp (Int32.not_le.mp h83), (wM_neg hl).mp (Int32.not_le.mp h97), (wM_neg hl).mp (Int32.not_le.mp h111)⟩
            have hvk : lps S c l (th3 (k / 36) (k / 6 % 6) (k % 6)) ≤ 4608 := vk_le w hc hl (by omega) u3
            refine Y_aload_n 66 rfl (pc2 := 115) rfl rfl ?_
            refine Y_iload_n 67 rfl (pc2 := 116) rfl rfl ?_
            refine Y_iload_n 68 rfl (pc2 := 117) rfl rfl ?_
            refine Y_cV 69 rfl (pc2 := 120) rfl ok_mo_leapsOf lk_mo_187 vi_mo_leapsOf ly_mo rfl (by decide) rfl (as := [.int _, .int _]) (rest := []) rfl rfl (T_mo_leapsOf (th := th3 (k / 36) (k / 6 % 6) (k % 6)) h2 w hc hl (fun i _ => th3_lt (by omega) (by omega) (by omega)) (fun i _ => th3_all (P := okF S l) u3.1 u3.2.1 u3.2.2 i) hch) ?_
            rintro _ _ ⟨rfl, rfl⟩
            change Y _ _ _ _ _ [.int _] _ _
            refine Y_istore 70 rfl (pc2 := 122) rfl (Nat.le_of_ble_eq_true rfl) (ls2 := [some (.ref _), some (.int _), some (.int _), some (.int _), some (.int _), some (.int _), some (.int _)]) rfl ?_
            refine Y_iload_n 71 rfl (pc2 := 123) rfl rfl ?_
            refine Y_ldc 72 rfl (pc2 := 125) rfl kc_mo_111 ?_
            refine Y_icmp_eq 73 rfl (pc2 := 128) rfl (tgt := 135) (by decide) (fun h125 => ?_) (fun h125 => ?_)
            · refine Y_bipush 77 rfl (pc2 := 137) rfl (v := nI 100) (by decide) ?_
              refine Y_aload_n 78 rfl (pc2 := 138) rfl rfl ?_
              refine Y_getR 79 rfl (pc2 := 141) rfl fl_mo_56 ly_mo (by decide) rfl rfl (by omega) ?_
              refine Y_iconst 80 rfl (pc2 := 142) rfl (v := nI 0) (by decide) ?_
              refine Y_iald 81 rfl (pc2 := 143) rfl ly_mo_three rfl (by omega) (by decide) ?_
              refine Y_top (hch _ (by omega)) ?_
              refine Y_imul 82 rfl (pc2 := 144) rfl ?_
              refine Y_top (nI_mul _ _) ?_
              refine Y_bipush 83 rfl (pc2 := 146) rfl (v := nI 10) (by decide) ?_
              refine Y_aload_n 84 rfl (pc2 := 147) rfl rfl ?_
              refine Y_getR 85 rfl (pc2 := 150) rfl fl_mo_56 ly_mo (by decide) rfl rfl (by omega) ?_
              refine Y_iconst 86 rfl (pc2 := 151) rfl (v := nI 1) (by decide) ?_
              refine Y_iald 87 rfl (pc2 := 152) rfl ly_mo_three rfl (by omega) (by decide) ?_
              refine Y_top (hch _ (by omega)) ?_
              refine Y_imul 88 rfl (pc2 := 153) rfl ?_
              refine Y_top (nI_mul _ _) ?_
              refine Y_iadd 89 rfl (pc2 := 154) rfl ?_
              refine Y_top (nI_add _ _) ?_
              refine Y_aload_n 90 rfl (pc2 := 155) rfl rfl ?_
              refine Y_getR 91 rfl (pc2 := 158) rfl fl_mo_56 ly_mo (by decide) rfl rfl (by omega) ?_
              refine Y_iconst 92 rfl (pc2 := 159) rfl (v := nI 2) (by decide) ?_
              refine Y_iald 93 rfl (pc2 := 160) rfl ly_mo_three rfl (by omega) (by decide) ?_
              refine Y_top (hch _ (by omega)) ?_
              refine Y_iadd 94 rfl (pc2 := 161) rfl ?_
              refine Y_top (nI_add _ _) ?_
              refine Y_istore_n 95 rfl (pc2 := 162) rfl (Nat.le_of_ble_eq_true rfl) (ls2 := [some (.ref _), some (.int _), some (.int _), some (.int _), some (.int _), some (.int _), some (.int _)]) rfl ?_
              refine Y_iload 96 rfl (pc2 := 164) rfl rfl ?_
              refine Y_istore 97 rfl (pc2 := 166) rfl (Nat.le_of_ble_eq_true rfl) (ls2 := [some (.ref _), some (.int _), some (.int _), some (.int _), some (.int _), some (.int _), some (.int _)]) rfl ?_
              refine Y_iinc 98 rfl (pc2 := 169) rfl rfl (nI_inc _ 1) (ls2 := [some (.ref _), some (.int _), some (.int _), some (.int _), some (.int _), some (.int _), some (.int _)]) rfl ?_
              refine Y_goto 99 rfl (pc2 := 28) (by decide) ?_
              have hi := ih (k + 1) (by omega) (by omega) m2 h2 (fun a ha => (hfr a ha).trans (hf1 a ha))
              first
                | exact (by
                    rw [bst_no (by rintro ⟨p1, p2, p3⟩; first | exact Int32.not_lt.mpr h83 ((wM_neg hl).mpr p1) | exact Int32.not_lt.mpr h97 ((wM_neg hl).mpr p2) | exact Int32.not_lt.mpr h111 ((wM_neg hl).mpr p3)), hb] at hi
                    exact hi _)
                | exact (by
                    rw [bst_new u3 hb] at hi
                    exact hi _)
            · exact absurd rfl h125
  | some q =>
    obtain ⟨lv, cd⟩ := q
    have hlv := bst_le w hc hl k hk _ hb
    change lv ≤ 4608 at hlv
    have hcd := bst_cd k hk _ hb
    change cd < 1000 at hcd
    change Y _ _ _ _ [_, _, _, some (.int (nI cd)), some (.int (nI lv)), _, _] _ _ _
    refine Y_iload 16 rfl (pc2 := 30) rfl rfl ?_
    refine Y_sipush 17 rfl (pc2 := 33) rfl (v := nI 216) (by decide) ?_
    refine Y_icmp_gen 18 rfl (pc2 := 36) rfl (tgt := 172) (by decide) (by omega) (by omega) (fun h33 => ?_) (fun h33 => ?_)
    · refine Y_iload_n 100 rfl (pc2 := 173) rfl rfl ?_
      refine Y_iret 101 rfl rfl rfl ⟨rfl, ?_⟩
      dsimp only
      exact ⟨by rw [show 216 = k by omega, hb]; rfl, h, hf1⟩
    · refine Y_aload_n 19 rfl (pc2 := 37) rfl rfl ?_
      refine Y_getR 20 rfl (pc2 := 40) rfl fl_mo_56 ly_mo (by decide) rfl rfl (by omega) ?_
      refine Y_iconst 21 rfl (pc2 := 41) rfl (v := nI 0) (by decide) ?_
      refine Y_iload 22 rfl (pc2 := 43) rfl rfl ?_
      refine Y_bipush 23 rfl (pc2 := 45) rfl (v := nI 36) (by decide) ?_
      refine Y_idiv 24 rfl (pc2 := 46) rfl (by exact nI_ne0 (by omega) (by omega)) ?_
      refine Y_top (nI_div (by omega) (by omega)) ?_
      refine Y_iast 25 rfl (pc2 := 47) rfl ly_mo_three rfl (by omega) (by decide) rfl ?_
      refine Y_aload_n 26 rfl (pc2 := 48) rfl rfl ?_
      refine Y_getR 27 rfl (pc2 := 51) rfl fl_mo_56 ly_mo (by decide) rfl rfl (by omega) ?_
      refine Y_iconst 28 rfl (pc2 := 52) rfl (v := nI 1) (by decide) ?_
      refine Y_iload 29 rfl (pc2 := 54) rfl rfl ?_
      refine Y_bipush 30 rfl (pc2 := 56) rfl (v := nI 6) (by decide) ?_
      refine Y_idiv 31 rfl (pc2 := 57) rfl (by exact nI_ne0 (by omega) (by omega)) ?_
      refine Y_top (nI_div (by omega) (by omega)) ?_
      refine Y_bipush 32 rfl (pc2 := 59) rfl (v := nI 6) (by decide) ?_
      refine Y_irem 33 rfl (pc2 := 60) rfl (by exact nI_ne0 (by omega) (by omega)) ?_
      refine Y_top (nI_rem (by omega) (by omega)) ?_
      refine Y_iast 34 rfl (pc2 := 61) rfl ly_mo_three rfl (by omega) (by decide) rfl ?_
      refine Y_aload_n 35 rfl (pc2 := 62) rfl rfl ?_
      refine Y_getR 36 rfl (pc2 := 65) rfl fl_mo_56 ly_mo (by decide) rfl rfl (by omega) ?_
      refine Y_iconst 37 rfl (pc2 := 66) rfl (v := nI 2) (by decide) ?_
      refine Y_iload 38 rfl (pc2 := 68) rfl rfl ?_
      refine Y_bipush 39 rfl (pc2 := 70) rfl (v := nI 6) (by decide) ?_
      refine Y_irem 40 rfl (pc2 := 71) rfl (by exact nI_ne0 (by omega) (by omega)) ?_
      refine Y_top (nI_rem (by omega) (by omega)) ?_
      refine Y_iast 41 rfl (pc2 := 72) rfl ly_mo_three rfl (by omega) (by decide) rfl ?_
      generalize hm2 : uw_ (uw_ (uw_ m1 169 0 (nI (k / 36))) 169 1 (nI (k / 6 % 6))) 169 2 (nI (k % 6)) = m2
      have hch : ∀ i, i < 3 → m2 169 i = nI (th3 (k / 36) (k / 6 % 6) (k % 6) i) := by
        intro i hi
        have hi3 : i = 0 ∨ i = 1 ∨ i = 2 := by omega
        rw [← hm2]
        rcases hi3 with rfl | rfl | rfl
        · rw [uw_ne (by omega), uw_ne (by omega), uw_same]; rfl
        · rw [uw_ne (by omega), uw_same]; rfl
        · rw [uw_same]; rfl
      have h2 : RM m2 S := by rw [← hm2]; exact RM_169 (RM_169 (RM_169 h))
      have hfr : ∀ a, a < 153 → m2 a = m1 a := fun a ha => by rw [← hm2]; funext k; rw [uw_ne (by omega), uw_ne (by omega), uw_ne (by omega)]
      refine Y_aload_n 42 rfl (pc2 := 73) rfl rfl ?_
      refine Y_iload_n 43 rfl (pc2 := 74) rfl rfl ?_
      refine Y_aload_n 44 rfl (pc2 := 75) rfl rfl ?_
      refine Y_getR 45 rfl (pc2 := 78) rfl fl_mo_56 ly_mo (by decide) rfl rfl (by omega) ?_
      refine Y_iconst 46 rfl (pc2 := 79) rfl (v := nI 0) (by decide) ?_
      refine Y_iald 47 rfl (pc2 := 80) rfl ly_mo_three rfl (by omega) (by decide) ?_
      refine Y_top (hch _ (by omega)) ?_
      refine Y_cV 48 rfl (pc2 := 83) rfl ok_mo_wrongStep lk_mo_143 vi_mo_wrongStep ly_mo rfl (by decide) rfl (as := [.int _, .int _]) (rest := []) rfl rfl (T_mo_wrongStep h2 w hl (by show k / 36 < 6; omega)) ?_
      rintro _ _ ⟨rfl, rfl⟩
      change Y _ _ _ _ _ [.int _] _ _
      refine Y_if_ge 49 rfl (pc2 := 86) rfl (tgt := 166) (by decide) (fun h83 => ?_) (fun h83 => ?_)
      · refine Y_iinc 98 rfl (pc2 := 169) rfl rfl (nI_inc _ 1) (ls2 := [some (.ref _), some (.int _), some (.int _), some (.int _), some (.int _), some (.int _), _]) rfl ?_
        refine Y_goto 99 rfl (pc2 := 28) (by decide) ?_
        have hi := ih (k + 1) (by omega) (by omega) m2 h2 (fun a ha => (hfr a ha).trans (hf1 a ha))
        first
          | exact (by
              rw [bst_no (by rintro ⟨p1, p2, p3⟩; first | exact Int32.not_lt.mpr h83 ((wM_neg hl).mpr p1) | exact Int32.not_lt.mpr h97 ((wM_neg hl).mpr p2) | exact Int32.not_lt.mpr h111 ((wM_neg hl).mpr p3)), hb] at hi
              exact hi _)
          | exact (by
              rw [bst_lt u3 hb (by show lps _ _ _ _ < lv; omega)] at hi
              exact hi _)
          | exact (by
              rw [bst_ge u3 hb (by show ¬ lps _ _ _ _ < lv; omega)] at hi
              exact hi _)
      · refine Y_aload_n 50 rfl (pc2 := 87) rfl rfl ?_
        refine Y_iload_n 51 rfl (pc2 := 88) rfl rfl ?_
        refine Y_aload_n 52 rfl (pc2 := 89) rfl rfl ?_
        refine Y_getR 53 rfl (pc2 := 92) rfl fl_mo_56 ly_mo (by decide) rfl rfl (by omega) ?_
        refine Y_iconst 54 rfl (pc2 := 93) rfl (v := nI 1) (by decide) ?_
        refine Y_iald 55 rfl (pc2 := 94) rfl ly_mo_three rfl (by omega) (by decide) ?_
        refine Y_top (hch _ (by omega)) ?_
        refine Y_cV 56 rfl (pc2 := 97) rfl ok_mo_wrongStep lk_mo_143 vi_mo_wrongStep ly_mo rfl (by decide) rfl (as := [.int _, .int _]) (rest := []) rfl rfl (T_mo_wrongStep h2 w hl (by show k / 6 % 6 < 6; omega)) ?_
        rintro _ _ ⟨rfl, rfl⟩
        change Y _ _ _ _ _ [.int _] _ _
        refine Y_if_ge 57 rfl (pc2 := 100) rfl (tgt := 166) (by decide) (fun h97 => ?_) (fun h97 => ?_)
        · refine Y_iinc 98 rfl (pc2 := 169) rfl rfl (nI_inc _ 1) (ls2 := [some (.ref _), some (.int _), some (.int _), some (.int _), some (.int _), some (.int _), _]) rfl ?_
          refine Y_goto 99 rfl (pc2 := 28) (by decide) ?_
          have hi := ih (k + 1) (by omega) (by omega) m2 h2 (fun a ha => (hfr a ha).trans (hf1 a ha))
          first
            | exact (by
                rw [bst_no (by rintro ⟨p1, p2, p3⟩; first | exact Int32.not_lt.mpr h83 ((wM_neg hl).mpr p1) | exact Int32.not_lt.mpr h97 ((wM_neg hl).mpr p2) | exact Int32.not_lt.mpr h111 ((wM_neg hl).mpr p3)), hb] at hi
                exact hi _)
            | exact (by
                rw [bst_lt u3 hb (by show lps _ _ _ _ < lv; omega)] at hi
                exact hi _)
            | exact (by
                rw [bst_ge u3 hb (by show ¬ lps _ _ _ _ < lv; omega)] at hi
                exact hi _)
        · refine Y_aload_n 58 rfl (pc2 := 101) rfl rfl ?_
          refine Y_iload_n 59 rfl (pc2 := 102) rfl rfl ?_
          refine Y_aload_n 60 rfl (pc2 := 103) rfl rfl ?_
          refine Y_getR 61 rfl (pc2 := 106) rfl fl_mo_56 ly_mo (by decide) rfl rfl (by omega) ?_
          refine Y_iconst 62 rfl (pc2 := 107) rfl (v := nI 2) (by decide) ?_
          refine Y_iald 63 rfl (pc2 := 108) rfl ly_mo_three rfl (by omega) (by decide) ?_
          refine Y_top (hch _ (by omega)) ?_
          refine Y_cV 64 rfl (pc2 := 111) rfl ok_mo_wrongStep lk_mo_143 vi_mo_wrongStep ly_mo rfl (by decide) rfl (as := [.int _, .int _]) (rest := []) rfl rfl (T_mo_wrongStep h2 w hl (by show k % 6 < 6; omega)) ?_
          rintro _ _ ⟨rfl, rfl⟩
          change Y _ _ _ _ _ [.int _] _ _
          refine Y_if_ge 65 rfl (pc2 := 114) rfl (tgt := 166) (by decide) (fun h111 => ?_) (fun h111 => ?_)
          · refine Y_iinc 98 rfl (pc2 := 169) rfl rfl (nI_inc _ 1) (ls2 := [some (.ref _), some (.int _), some (.int _), some (.int _), some (.int _), some (.int _), _]) rfl ?_
            refine Y_goto 99 rfl (pc2 := 28) (by decide) ?_
            have hi := ih (k + 1) (by omega) (by omega) m2 h2 (fun a ha => (hfr a ha).trans (hf1 a ha))
            first
              | exact (by
                  rw [bst_no (by rintro ⟨p1, p2, p3⟩; first | exact Int32.not_lt.mpr h83 ((wM_neg hl).mpr p1) | exact Int32.not_lt.mpr h97 ((wM_neg hl).mpr p2) | exact Int32.not_lt.mpr h111 ((wM_neg hl).mpr p3)), hb] at hi
                  exact hi _)
              | exact (by
                  rw [bst_lt u3 hb (by show lps _ _ _ _ < lv; omega)] at hi
                  exact hi _)
              | exact (by
                  rw [bst_ge u3 hb (by show ¬ lps _ _ _ _ < lv; omega)] at hi
                  exact hi _)
          · have u3 : us3 S l k := ⟨(wM_neg hl).mp (Int32.not_le.mp h83), (wM_neg hl).mp (Int32.not_le.mp h97), (wM_neg hl).mp (Int32.not_le.mp h111)⟩
            have hvk : lps S c l (th3 (k / 36) (k / 6 % 6) (k % 6)) ≤ 4608 := vk_le w hc hl (by omega) u3
            refine Y_aload_n 66 rfl (pc2 := 115) rfl rfl ?_
            refine Y_iload_n 67 rfl (pc2 := 116) rfl rfl ?_
            refine Y_iload_n 68 rfl (pc2 := 117) rfl rfl ?_
            refine Y_cV 69 rfl (pc2 := 120) rfl ok_mo_leapsOf lk_mo_187 vi_mo_leapsOf ly_mo rfl (by decide) rfl (as := [.int _, .int _]) (rest := []) rfl rfl (T_mo_leapsOf (th := th3 (k / 36) (k / 6 % 6) (k % 6)) h2 w hc hl (fun i _ => th3_lt (by omega) (by omega) (by omega)) (fun i _ => th3_all (P := okF S l) u3.1 u3.2.1 u3.2.2 i) hch) ?_
            rintro _ _ ⟨rfl, rfl⟩
            change Y _ _ _ _ _ [.int _] _ _
            refine Y_istore 70 rfl (pc2 := 122) rfl (Nat.le_of_ble_eq_true rfl) (ls2 := [some (.ref _), some (.int _), some (.int _), some (.int _), some (.int _), some (.int _), some (.int _)]) rfl ?_
            refine Y_iload_n 71 rfl (pc2 := 123) rfl rfl ?_
            refine Y_ldc 72 rfl (pc2 := 125) rfl kc_mo_111 ?_
            refine Y_icmp_eq 73 rfl (pc2 := 128) rfl (tgt := 135) (by decide) (fun h125 => ?_) (fun h125 => ?_)
            · exact absurd h125 (nI_no (by omega))
            · refine Y_iload 74 rfl (pc2 := 130) rfl rfl ?_
              refine Y_iload 75 rfl (pc2 := 132) rfl rfl ?_
              refine Y_icmp_gen 76 rfl (pc2 := 135) rfl (tgt := 166) (by decide) (by omega) (by omega) (fun h132 => ?_) (fun h132 => ?_)
              · refine Y_iinc 98 rfl (pc2 := 169) rfl rfl (nI_inc _ 1) (ls2 := [some (.ref _), some (.int _), some (.int _), some (.int _), some (.int _), some (.int _), some (.int _)]) rfl ?_
                refine Y_goto 99 rfl (pc2 := 28) (by decide) ?_
                have hi := ih (k + 1) (by omega) (by omega) m2 h2 (fun a ha => (hfr a ha).trans (hf1 a ha))
                first
                  | exact (by
                      rw [bst_no (by rintro ⟨p1, p2, p3⟩; first | exact Int32.not_lt.mpr h83 ((wM_neg hl).mpr p1) | exact Int32.not_lt.mpr h97 ((wM_neg hl).mpr p2) | exact Int32.not_lt.mpr h111 ((wM_neg hl).mpr p3)), hb] at hi
                      exact hi _)
                  | exact (by
                      rw [bst_lt u3 hb (by show lps _ _ _ _ < lv; omega)] at hi
                      exact hi _)
                  | exact (by
                      rw [bst_ge u3 hb (by show ¬ lps _ _ _ _ < lv; omega)] at hi
                      exact hi _)
              · refine Y_bipush 77 rfl (pc2 := 137) rfl (v := nI 100) (by decide) ?_
                refine Y_aload_n 78 rfl (pc2 := 138) rfl rfl ?_
                refine Y_getR 79 rfl (pc2 := 141) rfl fl_mo_56 ly_mo (by decide) rfl rfl (by omega) ?_
                refine Y_iconst 80 rfl (pc2 := 142) rfl (v := nI 0) (by decide) ?_
                refine Y_iald 81 rfl (pc2 := 143) rfl ly_mo_three rfl (by omega) (by decide) ?_
                refine Y_top (hch _ (by omega)) ?_
                refine Y_imul 82 rfl (pc2 := 144) rfl ?_
                refine Y_top (nI_mul _ _) ?_
                refine Y_bipush 83 rfl (pc2 := 146) rfl (v := nI 10) (by decide) ?_
                refine Y_aload_n 84 rfl (pc2 := 147) rfl rfl ?_
                refine Y_getR 85 rfl (pc2 := 150) rfl fl_mo_56 ly_mo (by decide) rfl rfl (by omega) ?_
                refine Y_iconst 86 rfl (pc2 := 151) rfl (v := nI 1) (by decide) ?_
                refine Y_iald 87 rfl (pc2 := 152) rfl ly_mo_three rfl (by omega) (by decide) ?_
                refine Y_top (hch _ (by omega)) ?_
                refine Y_imul 88 rfl (pc2 := 153) rfl ?_
                refine Y_top (nI_mul _ _) ?_
                refine Y_iadd 89 rfl (pc2 := 154) rfl ?_
                refine Y_top (nI_add _ _) ?_
                refine Y_aload_n 90 rfl (pc2 := 155) rfl rfl ?_
                refine Y_getR 91 rfl (pc2 := 158) rfl fl_mo_56 ly_mo (by decide) rfl rfl (by omega) ?_
                refine Y_iconst 92 rfl (pc2 := 159) rfl (v := nI 2) (by decide) ?_
                refine Y_iald 93 rfl (pc2 := 160) rfl ly_mo_three rfl (by omega) (by decide) ?_
                refine Y_top (hch _ (by omega)) ?_
                refine Y_iadd 94 rfl (pc2 := 161) rfl ?_
                refine Y_top (nI_add _ _) ?_
                refine Y_istore_n 95 rfl (pc2 := 162) rfl (Nat.le_of_ble_eq_true rfl) (ls2 := [some (.ref _), some (.int _), some (.int _), some (.int _), some (.int _), some (.int _), some (.int _)]) rfl ?_
                refine Y_iload 96 rfl (pc2 := 164) rfl rfl ?_
                refine Y_istore 97 rfl (pc2 := 166) rfl (Nat.le_of_ble_eq_true rfl) (ls2 := [some (.ref _), some (.int _), some (.int _), some (.int _), some (.int _), some (.int _), some (.int _)]) rfl ?_
                refine Y_iinc 98 rfl (pc2 := 169) rfl rfl (nI_inc _ 1) (ls2 := [some (.ref _), some (.int _), some (.int _), some (.int _), some (.int _), some (.int _), some (.int _)]) rfl ?_
                refine Y_goto 99 rfl (pc2 := 28) (by decide) ?_
                have hi := ih (k + 1) (by omega) (by omega) m2 h2 (fun a ha => (hfr a ha).trans (hf1 a ha))
                first
                  | exact (by
                      rw [bst_no (by rintro ⟨p1, p2, p3⟩; first | exact Int32.not_lt.mpr h83 ((wM_neg hl).mpr p1) | exact Int32.not_lt.mpr h97 ((wM_neg hl).mpr p2) | exact Int32.not_lt.mpr h111 ((wM_neg hl).mpr p3)), hb] at hi
                      exact hi _)
                  | exact (by
                      rw [bst_lt u3 hb (by show lps _ _ _ _ < lv; omega)] at hi
                      exact hi _)
                  | exact (by
                      rw [bst_ge u3 hb (by show ¬ lps _ _ _ _ < lv; omega)] at hi
                      exact hi _)

set_option maxHeartbeats 400000 in
theorem T_mo_choice {G : Nat × (Nat → Int32)} {m : Mm} {S : Mm} (h : RM m S) (w : WF S) {x y : Int32} : Y G M_mo_choice (0, 0) 0 (en_ M_mo_choice [.ref (153), .int (x), .int (y)]) [] (LAY, m) (qm_ LAY (pm_ (sp_choice S x y) m S)) := by
  change Y _ _ _ _ [some (.ref _), some (.int _), some (.int _), none, none, none, none] _ _ _
  refine Y_iload_n 0 rfl (pc2 := 1) rfl rfl ?_
  refine Y_cS 1 rfl (pc2 := 4) rfl ok_mo_isCircle lk_mo_66 vs_mo_isCircle (as := [.int _]) (rest := []) rfl rfl T_mo_isCircle ?_
  rintro _ _ ⟨rfl, rfl⟩
  change Y _ _ _ _ _ [.int _] _ _
  refine Y_if_eqb 2 rfl (pc2 := 7) rfl (tgt := 16) (by decide) (fun h4 => ?_) (fun h4 => ?_)
  · refine Y_ldc 8 rfl (pc2 := 18) rfl kc_mo_79 ?_
    refine Y_iret 9 rfl rfl rfl ⟨rfl, ?_⟩
    dsimp only
    first | exact pm_0 h (by unfold sp_choice; rw [cI_f (fun e => h4 e.1)]; rfl) | exact pm_0 h (by unfold sp_choice; rw [cI_f (fun e => h13 e.2)]; rfl)
  · refine Y_iload_n 3 rfl (pc2 := 8) rfl rfl ?_
    refine Y_iconst 4 rfl (pc2 := 9) rfl (v := nI 0) (by decide) ?_
    refine Y_iconst 5 rfl (pc2 := 10) rfl (v := nI 3) (by decide) ?_
    refine Y_cS 6 rfl (pc2 := 13) rfl ok_mo_isIn lk_mo_62 vs_mo_isIn (as := [.int _, .int _, .int _]) (rest := []) rfl rfl (T_mo_isIn0 (by omega)) ?_
    rintro _ _ ⟨rfl, rfl⟩
    change Y _ _ _ _ _ [.int _] _ _
    refine Y_if_neb 7 rfl (pc2 := 16) rfl (tgt := 19) (by decide) (fun h13 => ?_) (fun h13 => ?_)
    · obtain ⟨c, hc, rfl⟩ := h4
      obtain ⟨l, hl, rfl⟩ := h13
      refine Y_ldc 10 rfl (pc2 := 21) rfl kc_mo_111 ?_
      refine Y_istore_n 11 rfl (pc2 := 22) rfl (Nat.le_of_ble_eq_true rfl) (ls2 := [some (.ref _), some (.int _), some (.int _), some (.int _), none, none, none]) rfl ?_
      refine Y_iconst 12 rfl (pc2 := 23) rfl (v := nI 0) (by decide) ?_
      refine Y_istore 13 rfl (pc2 := 25) rfl (Nat.le_of_ble_eq_true rfl) (ls2 := [some (.ref _), some (.int _), some (.int _), some (.int _), some (.int _), none, none]) rfl ?_
      refine Y_iconst 14 rfl (pc2 := 26) rfl (v := nI 0) (by decide) ?_
      refine Y_istore 15 rfl (pc2 := 28) rfl (Nat.le_of_ble_eq_true rfl) (ls2 := [some (.ref _), some (.int _), some (.int _), some (.int _), some (.int _), some (.int _), none]) rfl ?_
      unfold sp_choice
      rw [cI_t ⟨⟨c, hc, rfl⟩, ⟨l, hl, rfl⟩⟩, nv_nI (k := c) (by omega), nv_nI (k := l) (by omega)]
      exact L_choiceM w hc hl 0 (Nat.zero_le _) m h (fun _ _ => rfl) _
    · refine Y_ldc 8 rfl (pc2 := 18) rfl kc_mo_79 ?_
      refine Y_iret 9 rfl rfl rfl ⟨rfl, ?_⟩
      dsimp only
      first | exact pm_0 h (by unfold sp_choice; rw [cI_f (fun e => h4 e.1)]; rfl) | exact pm_0 h (by unfold sp_choice; rw [cI_f (fun e => h13 e.2)]; rfl)
