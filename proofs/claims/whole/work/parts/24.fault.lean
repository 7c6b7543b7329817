/-! the class: a tune's faults -/
set_option maxHeartbeats 400000 in
theorem lk_no2 : ∀ v, v < 256 → 128 ≤ v → Op.lookupswitch.offset [(71, 45), (72, 47), (76, 49), (103, 43)] 51 (sgv v).toInt = 51 := by decide +kernel
set_option maxHeartbeats 400000 in
theorem gk_no {v : Nat} (h : 128 ≤ v) : gkn v = -1 := by
  unfold gkn
  rw [if_neg (by omega), if_neg (by omega), if_neg (by omega), if_neg (by omega)]
set_option maxHeartbeats 400000 in
theorem gk_or (v : Nat) : oR (gkn v) 4 := by
  unfold gkn
  split
  · exact Or.inr ⟨0, by decide, rfl⟩
  · split
    · exact Or.inr ⟨1, by decide, rfl⟩
    · split
      · exact Or.inr ⟨2, by decide, rfl⟩
      · split
        · exact Or.inr ⟨3, by decide, rfl⟩
        · exact Or.inl rfl
set_option maxHeartbeats 400000 in
theorem T_re_kindOf2 {G : Nat × (Nat → Int32)} {m : Mm} {v : Nat} (hv : v < 256) (hv2 : 128 ≤ v) : Y G M_re_kindOf (0, 0) 0 (en_ M_re_kindOf [.int (sgv v)]) [] (LAY, m) (qm_ LAY (pu_ (oC (gkn v)) m)) := by
  change Y _ _ _ _ [some (.int _)] _ _ _
  refine Y_iload_n 0 rfl (pc2 := 1) rfl rfl ?_
  refine Y_lookup 1 rfl (by decide) (off := 51) (lk_no2 v hv hv2) (pc2 := 52) (by decide) ?_
  refine Y_ldc 10 rfl (pc2 := 54) rfl kc_re_22 ?_
  exact Y_iret 11 rfl rfl rfl ⟨rfl, pu_i (by rw [gk_no hv2]; rfl)⟩
def iv (p : Nat) (q : Qt) (op : Option Nat) (aT : Bool) : Prop := q.1 ≤ 600 * p ∧ (∀ k, op = some k → k ≤ q.1 ∧ q.1 - k ≤ p) ∧ (aT = true → ∃ k, op = some k ∧ k < q.1)

set_option maxHeartbeats 400000 in
theorem T_takes_T {G : Nat × (Nat → Int32)} {m : Mm} {q : Qt} {st : Nat} {aG : Bool} (h : RR m q (some st) true aG) (hb : q.1 < 50000) (hs : st < q.1) (hw : q.1 - st ≤ 64) {v : Nat} (hv : v < 128) : Y G M_re_takes (0, 0) 0 (en_ M_re_takes [.ref 3, .int (nI v)]) [] (LAY, m) (qm_ LAY (pT_ m (stp v (q, some st, true, aG)))) := by
  change Y _ _ _ _ [some (.ref _), some (.int _)] _ _ _
  refine Y_aload_n 0 rfl (pc2 := 1) rfl rfl ?_
  refine Y_getI 1 rfl (pc2 := 4) rfl fl_re_26 ly_re (by decide) rfl ?_
  refine Y_top (h.2.2.1) ?_
  refine Y_if_eqn 2 rfl (pc2 := 7) rfl (tgt := 13) (by decide) (by decide) (fun hd => absurd hd (by decide)) (fun _ => ?_)
  refine Y_aload_n 3 rfl (pc2 := 8) rfl rfl ?_
  refine Y_iload_n 4 rfl (pc2 := 9) rfl rfl ?_
  refine Y_cV 5 rfl (pc2 := 12) rfl ok_re_takesTimes lk_re_46 vi_re_takesTimes ly_re rfl (by decide) rfl (as := [.int _]) (rest := []) rfl rfl (T_re_takesTimes h hb hs hw hv) ?_
  rintro _ _ ⟨hf, ⟨ho2, rfl⟩ | ⟨q2, op2, aT2, aG2, ho2, rfl, hR⟩⟩
  · change Y _ _ _ _ _ [.int _] _ _
    refine Y_iret 6 rfl rfl rfl ⟨rfl, ?_⟩
    dsimp only
    have E : stp v (q, some st, true, aG) = _ := if_pos rfl
    first | exact ⟨hf, Or.inl ⟨E.trans ho2, rfl⟩⟩ | exact ⟨hf, Or.inr ⟨q2, op2, aT2, aG2, E.trans ho2, rfl, hR⟩⟩
  · change Y _ _ _ _ _ [.int _] _ _
    refine Y_iret 6 rfl rfl rfl ⟨rfl, ?_⟩
    dsimp only
    have E : stp v (q, some st, true, aG) = _ := if_pos rfl
    first | exact ⟨hf, Or.inl ⟨E.trans ho2, rfl⟩⟩ | exact ⟨hf, Or.inr ⟨q2, op2, aT2, aG2, E.trans ho2, rfl, hR⟩⟩

set_option maxHeartbeats 400000 in
theorem T_takes_F {G : Nat × (Nat → Int32)} {m : Mm} {q : Qt} {op : Option Nat} {aG : Bool} (h : RR m q op false aG) (hb : q.1 < 50000) (ho : ∀ k, op = some k → k ≤ q.1) {v : Nat} (hv : v < 128) : Y G M_re_takes (0, 0) 0 (en_ M_re_takes [.ref 3, .int (nI v)]) [] (LAY, m) (qm_ LAY (pT_ m (stp v (q, op, false, aG)))) := by
  change Y _ _ _ _ [some (.ref _), some (.int _)] _ _ _
  refine Y_aload_n 0 rfl (pc2 := 1) rfl rfl ?_
  refine Y_getI 1 rfl (pc2 := 4) rfl fl_re_26 ly_re (by decide) rfl ?_
  refine Y_top (h.2.2.1) ?_
  refine Y_if_eqn 2 rfl (pc2 := 7) rfl (tgt := 13) (by decide) (by decide) (fun _ => ?_) (fun hd => absurd hd (by decide))
  refine Y_iload_n 7 rfl (pc2 := 14) rfl rfl ?_
  refine Y_bipush 8 rfl (pc2 := 16) rfl (v := nI 91) (by decide) ?_
  refine Y_icmp_nen 9 rfl (pc2 := 19) rfl (tgt := 24) (by decide) (by omega) (by omega) (fun h16 => ?_) (fun h16 => ?_)
  · refine Y_iload_n 13 rfl (pc2 := 25) rfl rfl ?_
    refine Y_bipush 14 rfl (pc2 := 27) rfl (v := nI 93) (by decide) ?_
    refine Y_icmp_nen 15 rfl (pc2 := 30) rfl (tgt := 35) (by decide) (by omega) (by omega) (fun h27 => ?_) (fun h27 => ?_)
    · refine Y_iload_n 19 rfl (pc2 := 36) rfl rfl ?_
      refine Y_bipush 20 rfl (pc2 := 38) rfl (v := nI 46) (by decide) ?_
      refine Y_icmp_nen 21 rfl (pc2 := 41) rfl (tgt := 48) (by decide) (by omega) (by omega) (fun h38 => ?_) (fun h38 => ?_)
      · refine Y_iload_n 26 rfl (pc2 := 49) rfl rfl ?_
        refine Y_bipush 27 rfl (pc2 := 51) rfl (v := nI 49) (by decide) ?_
        refine Y_icmp_ltn 28 rfl (pc2 := 54) rfl (tgt := 69) (by decide) (by omega) (by omega) (fun h51 => ?_) (fun h51 => ?_)
        · refine Y_aload_n 38 rfl (pc2 := 70) rfl rfl ?_
          refine Y_iload_n 39 rfl (pc2 := 71) rfl rfl ?_
          refine Y_cS 40 rfl (pc2 := 74) rfl ok_re_kindOf lk_re_59 vs_re_kindOf (as := [.int _]) (rest := [.ref _]) rfl rfl (T_re_kindOf hv) ?_
          rintro _ _ ⟨rfl, rfl⟩
          change Y _ _ _ _ _ [.int _, .ref _] _ _
          refine Y_cV 41 rfl (pc2 := 77) rfl ok_re_takesGong lk_re_63 vi_re_takesGong ly_re rfl (by decide) rfl (as := [.int _]) (rest := []) rfl rfl (T_re_takesGong (k := gkn v) h hb rfl (gk_or v)) ?_
          rintro _ _ ⟨hf, ⟨ho2, rfl⟩ | ⟨q2, op2, aT2, aG2, ho2, rfl, hR⟩⟩
          · change Y _ _ _ _ _ [.int _] _ _
            refine Y_iret 42 rfl rfl rfl ⟨rfl, ?_⟩
            dsimp only
            have E : stp v (q, op, false, aG) = _ := (if_neg (show ¬ (false = true) by decide)).trans ((if_neg (show ¬ (v = 91) by omega)).trans ((if_neg (show ¬ (v = 93) by omega)).trans ((if_neg (show ¬ (v = 46) by omega)).trans (if_neg (show ¬ (49 ≤ v ∧ v ≤ 55) by omega)))))
            first | exact ⟨hf, Or.inl ⟨E.trans ho2, rfl⟩⟩ | exact ⟨hf, Or.inr ⟨q2, op2, aT2, aG2, E.trans ho2, rfl, hR⟩⟩
          · change Y _ _ _ _ _ [.int _] _ _
            refine Y_iret 42 rfl rfl rfl ⟨rfl, ?_⟩
            dsimp only
            have E : stp v (q, op, false, aG) = _ := (if_neg (show ¬ (false = true) by decide)).trans ((if_neg (show ¬ (v = 91) by omega)).trans ((if_neg (show ¬ (v = 93) by omega)).trans ((if_neg (show ¬ (v = 46) by omega)).trans (if_neg (show ¬ (49 ≤ v ∧ v ≤ 55) by omega)))))
            first | exact ⟨hf, Or.inl ⟨E.trans ho2, rfl⟩⟩ | exact ⟨hf, Or.inr ⟨q2, op2, aT2, aG2, E.trans ho2, rfl, hR⟩⟩
        · refine Y_iload_n 29 rfl (pc2 := 55) rfl rfl ?_
          refine Y_bipush 30 rfl (pc2 := 57) rfl (v := nI 55) (by decide) ?_
          refine Y_icmp_gtn 31 rfl (pc2 := 60) rfl (tgt := 69) (by decide) (by omega) (by omega) (fun h57 => ?_) (fun h57 => ?_)
          · refine Y_aload_n 38 rfl (pc2 := 70) rfl rfl ?_
            refine Y_iload_n 39 rfl (pc2 := 71) rfl rfl ?_
            refine Y_cS 40 rfl (pc2 := 74) rfl ok_re_kindOf lk_re_59 vs_re_kindOf (as := [.int _]) (rest := [.ref _]) rfl rfl (T_re_kindOf hv) ?_
            rintro _ _ ⟨rfl, rfl⟩
            change Y _ _ _ _ _ [.int _, .ref _] _ _
            refine Y_cV 41 rfl (pc2 := 77) rfl ok_re_takesGong lk_re_63 vi_re_takesGong ly_re rfl (by decide) rfl (as := [.int _]) (rest := []) rfl rfl (T_re_takesGong (k := gkn v) h hb rfl (gk_or v)) ?_
            rintro _ _ ⟨hf, ⟨ho2, rfl⟩ | ⟨q2, op2, aT2, aG2, ho2, rfl, hR⟩⟩
            · change Y _ _ _ _ _ [.int _] _ _
              refine Y_iret 42 rfl rfl rfl ⟨rfl, ?_⟩
              dsimp only
              have E : stp v (q, op, false, aG) = _ := (if_neg (show ¬ (false = true) by decide)).trans ((if_neg (show ¬ (v = 91) by omega)).trans ((if_neg (show ¬ (v = 93) by omega)).trans ((if_neg (show ¬ (v = 46) by omega)).trans (if_neg (show ¬ (49 ≤ v ∧ v ≤ 55) by omega)))))
              first | exact ⟨hf, Or.inl ⟨E.trans ho2, rfl⟩⟩ | exact ⟨hf, Or.inr ⟨q2, op2, aT2, aG2, E.trans ho2, rfl, hR⟩⟩
            · change Y _ _ _ _ _ [.int _] _ _
              refine Y_iret 42 rfl rfl rfl ⟨rfl, ?_⟩
              dsimp only
              have E : stp v (q, op, false, aG) = _ := (if_neg (show ¬ (false = true) by decide)).trans ((if_neg (show ¬ (v = 91) by omega)).trans ((if_neg (show ¬ (v = 93) by omega)).trans ((if_neg (show ¬ (v = 46) by omega)).trans (if_neg (show ¬ (49 ≤ v ∧ v ≤ 55) by omega)))))
              first | exact ⟨hf, Or.inl ⟨E.trans ho2, rfl⟩⟩ | exact ⟨hf, Or.inr ⟨q2, op2, aT2, aG2, E.trans ho2, rfl, hR⟩⟩
          · refine Y_aload_n 32 rfl (pc2 := 61) rfl rfl ?_
            refine Y_iload_n 33 rfl (pc2 := 62) rfl rfl ?_
            refine Y_bipush 34 rfl (pc2 := 64) rfl (v := nI 49) (by decide) ?_
            refine Y_isub 35 rfl (pc2 := 65) rfl ?_
            refine Y_top (nI_sub (by omega)) ?_
            refine Y_cV 36 rfl (pc2 := 68) rfl ok_re_takesBeat lk_re_56 vi_re_takesBeat ly_re rfl (by decide) rfl (as := [.int _]) (rest := []) rfl rfl (T_re_takesBeat (a := nI (v - 49)) h hb (oC_id (nI_pos (by omega))).symm) ?_
            rintro _ _ ⟨hf, ⟨ho2, rfl⟩ | ⟨q2, op2, aT2, aG2, ho2, rfl, hR⟩⟩
            · change Y _ _ _ _ _ [.int _] _ _
              refine Y_iret 37 rfl rfl rfl ⟨rfl, ?_⟩
              dsimp only
              have E : stp v (q, op, false, aG) = _ := (if_neg (show ¬ (false = true) by decide)).trans ((if_neg (show ¬ (v = 91) by omega)).trans ((if_neg (show ¬ (v = 93) by omega)).trans ((if_neg (show ¬ (v = 46) by omega)).trans (if_pos (show 49 ≤ v ∧ v ≤ 55 by omega)))))
              first | exact ⟨hf, Or.inl ⟨E.trans ho2, rfl⟩⟩ | exact ⟨hf, Or.inr ⟨q2, op2, aT2, aG2, E.trans ho2, rfl, hR⟩⟩
            · change Y _ _ _ _ _ [.int _] _ _
              refine Y_iret 37 rfl rfl rfl ⟨rfl, ?_⟩
              dsimp only
              have E : stp v (q, op, false, aG) = _ := (if_neg (show ¬ (false = true) by decide)).trans ((if_neg (show ¬ (v = 91) by omega)).trans ((if_neg (show ¬ (v = 93) by omega)).trans ((if_neg (show ¬ (v = 46) by omega)).trans (if_pos (show 49 ≤ v ∧ v ≤ 55 by omega)))))
              first | exact ⟨hf, Or.inl ⟨E.trans ho2, rfl⟩⟩ | exact ⟨hf, Or.inr ⟨q2, op2, aT2, aG2, E.trans ho2, rfl, hR⟩⟩
      · refine Y_aload_n 22 rfl (pc2 := 42) rfl rfl ?_
        refine Y_ldc 23 rfl (pc2 := 44) rfl kc_re_22 ?_
        refine Y_cV 24 rfl (pc2 := 47) rfl ok_re_takesBeat lk_re_56 vi_re_takesBeat ly_re rfl (by decide) rfl (as := [.int _]) (rest := []) rfl rfl (T_re_takesBeat (a := -1) h hb rfl) ?_
        rintro _ _ ⟨hf, ⟨ho2, rfl⟩ | ⟨q2, op2, aT2, aG2, ho2, rfl, hR⟩⟩
        · change Y _ _ _ _ _ [.int _] _ _
          refine Y_iret 25 rfl rfl rfl ⟨rfl, ?_⟩
          dsimp only
          have E : stp v (q, op, false, aG) = _ := (if_neg (show ¬ (false = true) by decide)).trans ((if_neg (show ¬ (v = 91) by omega)).trans ((if_neg (show ¬ (v = 93) by omega)).trans (if_pos (show v = 46 by omega))))
          first | exact ⟨hf, Or.inl ⟨E.trans ho2, rfl⟩⟩ | exact ⟨hf, Or.inr ⟨q2, op2, aT2, aG2, E.trans ho2, rfl, hR⟩⟩
        · change Y _ _ _ _ _ [.int _] _ _
          refine Y_iret 25 rfl rfl rfl ⟨rfl, ?_⟩
          dsimp only
          have E : stp v (q, op, false, aG) = _ := (if_neg (show ¬ (false = true) by decide)).trans ((if_neg (show ¬ (v = 91) by omega)).trans ((if_neg (show ¬ (v = 93) by omega)).trans (if_pos (show v = 46 by omega))))
          first | exact ⟨hf, Or.inl ⟨E.trans ho2, rfl⟩⟩ | exact ⟨hf, Or.inr ⟨q2, op2, aT2, aG2, E.trans ho2, rfl, hR⟩⟩
    · refine Y_aload_n 16 rfl (pc2 := 31) rfl rfl ?_
      refine Y_cV 17 rfl (pc2 := 34) rfl ok_re_takesClosing lk_re_53 vi_re_takesClosing ly_re rfl (by decide) rfl (as := []) (rest := []) rfl rfl (T_re_takesClosing h hb ho) ?_
      rintro _ _ ⟨hf, ⟨ho2, rfl⟩ | ⟨q2, op2, aT2, aG2, ho2, rfl, hR⟩⟩
      · change Y _ _ _ _ _ [.int _] _ _
        refine Y_iret 18 rfl rfl rfl ⟨rfl, ?_⟩
        dsimp only
        have E : stp v (q, op, false, aG) = _ := (if_neg (show ¬ (false = true) by decide)).trans ((if_neg (show ¬ (v = 91) by omega)).trans (if_pos (show v = 93 by omega)))
        first | exact ⟨hf, Or.inl ⟨E.trans ho2, rfl⟩⟩ | exact ⟨hf, Or.inr ⟨q2, op2, aT2, aG2, E.trans ho2, rfl, hR⟩⟩
      · change Y _ _ _ _ _ [.int _] _ _
        refine Y_iret 18 rfl rfl rfl ⟨rfl, ?_⟩
        dsimp only
        have E : stp v (q, op, false, aG) = _ := (if_neg (show ¬ (false = true) by decide)).trans ((if_neg (show ¬ (v = 91) by omega)).trans (if_pos (show v = 93 by omega)))
        first | exact ⟨hf, Or.inl ⟨E.trans ho2, rfl⟩⟩ | exact ⟨hf, Or.inr ⟨q2, op2, aT2, aG2, E.trans ho2, rfl, hR⟩⟩
  · refine Y_aload_n 10 rfl (pc2 := 20) rfl rfl ?_
    refine Y_cV 11 rfl (pc2 := 23) rfl ok_re_takesOpening lk_re_49 vi_re_takesOpening ly_re rfl (by decide) rfl (as := []) (rest := []) rfl rfl (T_re_takesOpening h hb ho) ?_
    rintro _ _ ⟨hf, ⟨ho2, rfl⟩ | ⟨q2, op2, aT2, aG2, ho2, rfl, hR⟩⟩
    · change Y _ _ _ _ _ [.int _] _ _
      refine Y_iret 12 rfl rfl rfl ⟨rfl, ?_⟩
      dsimp only
      have E : stp v (q, op, false, aG) = _ := (if_neg (show ¬ (false = true) by decide)).trans (if_pos (show v = 91 by omega))
      first | exact ⟨hf, Or.inl ⟨E.trans ho2, rfl⟩⟩ | exact ⟨hf, Or.inr ⟨q2, op2, aT2, aG2, E.trans ho2, rfl, hR⟩⟩
    · change Y _ _ _ _ _ [.int _] _ _
      refine Y_iret 12 rfl rfl rfl ⟨rfl, ?_⟩
      dsimp only
      have E : stp v (q, op, false, aG) = _ := (if_neg (show ¬ (false = true) by decide)).trans (if_pos (show v = 91 by omega))
      first | exact ⟨hf, Or.inl ⟨E.trans ho2, rfl⟩⟩ | exact ⟨hf, Or.inr ⟨q2, op2, aT2, aG2, E.trans ho2, rfl, hR⟩⟩

set_option maxHeartbeats 400000 in
theorem sg_ne {v c : Nat} (hv : v < 256) (h2 : 128 ≤ v) (hc : c < 128) : ¬ sgv v = nI c := fun e => by
  have := sgv_n v hv h2
  rw [e] at this
  exact nI_pos (by omega) this
set_option maxHeartbeats 400000 in
theorem sg_lt1 {v c : Nat} (hv : v < 256) (h2 : 128 ≤ v) (hc : c < 128) : sgv v < nI c := by
  have a := sgv_n v hv h2
  have b := nI_pos' (n := c) (by omega)
  rw [Int32.lt_iff_toInt_lt] at a ⊢
  rw [Int32.le_iff_toInt_le] at b
  omega

set_option maxHeartbeats 400000 in
theorem T_times_neg {G : Nat × (Nat → Int32)} {m : Mm} {v : Nat} (hv : v < 256) (hv2 : 128 ≤ v) : Y G M_re_takesTimes (0, 0) 0 (en_ M_re_takesTimes [.ref (3), .int (sgv v)]) [] (LAY, m) (qm_ LAY (pT_ m none)) := by
  change Y _ _ _ _ [some (.ref _), some (.int _)] _ _ _
  refine Y_iload_n 0 rfl (pc2 := 1) rfl rfl ?_
  refine Y_bipush 1 rfl (pc2 := 3) rfl (v := nI 50) (by decide) ?_
  refine Y_icmp_lt 2 rfl (pc2 := 6) rfl (tgt := 12) (by decide) (fun h3 => ?_) (fun h3 => ?_)
  · refine Y_iconst 6 rfl (pc2 := 13) rfl (v := nI 0) (by decide) ?_
    refine Y_iret 7 rfl rfl rfl ⟨rfl, ?_⟩
    dsimp only
    exact ⟨fR_id, Or.inl ⟨rfl, rfl⟩⟩
  · exact absurd (sg_lt1 hv hv2 (by decide)) h3

set_option maxHeartbeats 400000 in
theorem T_takes_N {G : Nat × (Nat → Int32)} {m : Mm} {q : Qt} {op : Option Nat} {aT aG : Bool} (h : RR m q op aT aG) (hb : q.1 < 50000) {v : Nat} (hv : v < 256) (hv2 : 128 ≤ v) : Y G M_re_takes (0, 0) 0 (en_ M_re_takes [.ref 3, .int (sgv v)]) [] (LAY, m) (qm_ LAY (pT_ m (stp v (q, op, aT, aG)))) := by
  change Y _ _ _ _ [some (.ref _), some (.int _)] _ _ _
  cases aT with
  | true =>
    refine Y_aload_n 0 rfl (pc2 := 1) rfl rfl ?_
    refine Y_getI 1 rfl (pc2 := 4) rfl fl_re_26 ly_re (by decide) rfl ?_
    refine Y_top (h.2.2.1) ?_
    refine Y_if_eqn 2 rfl (pc2 := 7) rfl (tgt := 13) (by decide) (by decide) (fun hd => absurd hd (by decide)) (fun _ => ?_)
    refine Y_aload_n 3 rfl (pc2 := 8) rfl rfl ?_
    refine Y_iload_n 4 rfl (pc2 := 9) rfl rfl ?_
    refine Y_cV 5 rfl (pc2 := 12) rfl ok_re_takesTimes lk_re_46 vi_re_takesTimes ly_re rfl (by decide) rfl (as := [.int _]) (rest := []) rfl rfl (T_times_neg hv hv2) ?_
    rintro _ _ ⟨hf, ⟨ho2, rfl⟩ | ⟨q2, op2, aT2, aG2, ho2, rfl, hR⟩⟩
    · change Y _ _ _ _ _ [.int _] _ _
      refine Y_iret 6 rfl rfl rfl ⟨rfl, ?_⟩
      dsimp only
      have E : stp v (q, op, true, aG) = none := (if_pos rfl).trans (if_neg (by omega))
      first | exact ⟨hf, Or.inl ⟨E, rfl⟩⟩ | exact absurd ho2 (by simp)
    · change Y _ _ _ _ _ [.int _] _ _
      refine Y_iret 6 rfl rfl rfl ⟨rfl, ?_⟩
      dsimp only
      have E : stp v (q, op, true, aG) = none := (if_pos rfl).trans (if_neg (by omega))
      first | exact ⟨hf, Or.inl ⟨E, rfl⟩⟩ | exact absurd ho2 (by simp)
  | false =>
    refine Y_aload_n 0 rfl (pc2 := 1) rfl rfl ?_
    refine Y_getI 1 rfl (pc2 := 4) rfl fl_re_26 ly_re (by decide) rfl ?_
    refine Y_top (h.2.2.1) ?_
    refine Y_if_eqn 2 rfl (pc2 := 7) rfl (tgt := 13) (by decide) (by decide) (fun _ => ?_) (fun hd => absurd hd (by decide))
    refine Y_iload_n 7 rfl (pc2 := 14) rfl rfl ?_
    refine Y_bipush 8 rfl (pc2 := 16) rfl (v := nI 91) (by decide) ?_
    refine Y_icmp_ne 9 rfl (pc2 := 19) rfl (tgt := 24) (by decide) (fun h16 => ?_) (fun h16 => ?_)
    · refine Y_iload_n 13 rfl (pc2 := 25) rfl rfl ?_
      refine Y_bipush 14 rfl (pc2 := 27) rfl (v := nI 93) (by decide) ?_
      refine Y_icmp_ne 15 rfl (pc2 := 30) rfl (tgt := 35) (by decide) (fun h27 => ?_) (fun h27 => ?_)
      · refine Y_iload_n 19 rfl (pc2 := 36) rfl rfl ?_
        refine Y_bipush 20 rfl (pc2 := 38) rfl (v := nI 46) (by decide) ?_
        refine Y_icmp_ne 21 rfl (pc2 := 41) rfl (tgt := 48) (by decide) (fun h38 => ?_) (fun h38 => ?_)
        · refine Y_iload_n 26 rfl (pc2 := 49) rfl rfl ?_
          refine Y_bipush 27 rfl (pc2 := 51) rfl (v := nI 49) (by decide) ?_
          refine Y_icmp_lt 28 rfl (pc2 := 54) rfl (tgt := 69) (by decide) (fun h51 => ?_) (fun h51 => ?_)
          · refine Y_aload_n 38 rfl (pc2 := 70) rfl rfl ?_
            refine Y_iload_n 39 rfl (pc2 := 71) rfl rfl ?_
            refine Y_cS 40 rfl (pc2 := 74) rfl ok_re_kindOf lk_re_59 vs_re_kindOf (as := [.int _]) (rest := [.ref _]) rfl rfl (T_re_kindOf2 hv hv2) ?_
            rintro _ _ ⟨rfl, rfl⟩
            change Y _ _ _ _ _ [.int _, .ref _] _ _
            refine Y_cV 41 rfl (pc2 := 77) rfl ok_re_takesGong lk_re_63 vi_re_takesGong ly_re rfl (by decide) rfl (as := [.int _]) (rest := []) rfl rfl (T_re_takesGong (k := gkn v) h hb rfl (gk_or v)) ?_
            rintro _ _ ⟨hf, ⟨ho2, rfl⟩ | ⟨q2, op2, aT2, aG2, ho2, rfl, hR⟩⟩
            · change Y _ _ _ _ _ [.int _] _ _
              refine Y_iret 42 rfl rfl rfl ⟨rfl, ?_⟩
              dsimp only
              have E : stp v (q, op, false, aG) = _ := (if_neg (show ¬ (false = true) by decide)).trans ((if_neg (show ¬ (v = 91) by omega)).trans ((if_neg (show ¬ (v = 93) by omega)).trans ((if_neg (show ¬ (v = 46) by omega)).trans (if_neg (show ¬ (49 ≤ v ∧ v ≤ 55) by omega)))))
              first | exact ⟨hf, Or.inl ⟨E.trans ho2, rfl⟩⟩ | exact ⟨hf, Or.inr ⟨q2, op2, aT2, aG2, E.trans ho2, rfl, hR⟩⟩
            · change Y _ _ _ _ _ [.int _] _ _
              refine Y_iret 42 rfl rfl rfl ⟨rfl, ?_⟩
              dsimp only
              have E : stp v (q, op, false, aG) = _ := (if_neg (show ¬ (false = true) by decide)).trans ((if_neg (show ¬ (v = 91) by omega)).trans ((if_neg (show ¬ (v = 93) by omega)).trans ((if_neg (show ¬ (v = 46) by omega)).trans (if_neg (show ¬ (49 ≤ v ∧ v ≤ 55) by omega)))))
              first | exact ⟨hf, Or.inl ⟨E.trans ho2, rfl⟩⟩ | exact ⟨hf, Or.inr ⟨q2, op2, aT2, aG2, E.trans ho2, rfl, hR⟩⟩
          · exact absurd (sg_lt1 hv hv2 (by decide)) h51
        · exact absurd h38 (sg_ne hv hv2 (by decide))
      · exact absurd h27 (sg_ne hv hv2 (by decide))
    · exact absurd h16 (sg_ne hv hv2 (by decide))

set_option maxHeartbeats 400000 in
theorem T_re_takes {G : Nat × (Nat → Int32)} {m : Mm} {q : Qt} {op : Option Nat} {aT aG : Bool} (h : RR m q op aT aG) {p : Nat} (hp : p < 64) (hi : iv p q op aT) {v : Nat} (hv : v < 256) : Y G M_re_takes (0, 0) 0 (en_ M_re_takes [.ref 3, .int (sgv v)]) [] (LAY, m) (qm_ LAY (pT_ m (stp v (q, op, aT, aG)))) := by
  have hb : q.1 < 50000 := by have := hi.1; omega
  by_cases hv2 : v < 128
  · rw [sgv_p v hv2]
    cases aT with
    | true =>
      obtain ⟨k, e, hk⟩ := hi.2.2 rfl
      subst e
      exact T_takes_T h hb hk (by have := (hi.2.1 k rfl).2; omega) hv2
    | false => exact T_takes_F h hb (fun k e => (hi.2.1 k e).1) hv2
  · exact T_takes_N h hb hv (by omega)
set_option maxHeartbeats 400000 in
theorem iv_stp {p v : Nat} {q q2 : Qt} {op op2 : Option Nat} {aT aG aT2 aG2 : Bool} (hp : p < 64) (hi : iv p q op aT) (hs : stp v (q, op, aT, aG) = some (q2, op2, aT2, aG2)) : iv (p + 1) q2 op2 aT2 := by
  obtain ⟨h1, h2, h3⟩ := hi
  unfold stp at hs
  cases aT with
  | true =>
    obtain ⟨k, rfl, hk⟩ := h3 rfl
    have h4 := (h2 k rfl).2
    simp only [if_true] at hs
    split at hs
    · rename_i hv
      simp only [Option.some.injEq, Prod.mk.injEq, Option.getD_some] at hs
      obtain ⟨rfl, rfl, rfl, _⟩ := hs
      refine ⟨?_, (fun k e => by cases e), (fun e => by cases e)⟩
      rw [rp_n]
      have : (v - 49) * (q.1 - k) ≤ 8 * 64 := Nat.mul_le_mul (by omega) (by omega)
      omega
    · cases hs
  | false =>
    rw [if_neg (fun e => Bool.false_ne_true e)] at hs
    split at hs
    · split at hs
      · simp only [Option.some.injEq, Prod.mk.injEq] at hs
        obtain ⟨rfl, rfl, rfl, _⟩ := hs
        exact ⟨by omega, (fun k e => by cases e; exact ⟨Nat.le_refl _, by omega⟩), (fun e => by cases e)⟩
      · cases hs
    · split at hs
      · split at hs
        · cases hs
        · rename_i hn
          simp only [Option.some.injEq, Prod.mk.injEq] at hs
          obtain ⟨rfl, rfl, rfl, _⟩ := hs
          refine ⟨by omega, fun k e => ⟨(h2 k e).1, by have := (h2 k e).2; omega⟩, fun _ => ?_⟩
          cases op with
          | none => exact absurd (Or.inl rfl) hn
          | some k =>
            refine ⟨k, rfl, ?_⟩
            have a := (h2 k rfl).1
            have b : ¬ k = q.1 := fun e => hn (Or.inr (by rw [e]))
            omega
      · split at hs
        · simp only [Option.some.injEq, Prod.mk.injEq] at hs
          obtain ⟨rfl, rfl, rfl, _⟩ := hs
          exact ⟨by show q.1 + 1 ≤ _; omega, (fun k e => ⟨by have := (h2 k e).1; show k ≤ q.1 + 1; omega, by have := (h2 k e).2; show q.1 + 1 - k ≤ p + 1; omega⟩), (fun e => by cases e)⟩
        · split at hs
          · simp only [Option.some.injEq, Prod.mk.injEq] at hs
            obtain ⟨rfl, rfl, rfl, _⟩ := hs
            exact ⟨by show q.1 + 1 ≤ _; omega, (fun k e => ⟨by have := (h2 k e).1; show k ≤ q.1 + 1; omega, by have := (h2 k e).2; show q.1 + 1 - k ≤ p + 1; omega⟩), (fun e => by cases e)⟩
          · split at hs
            · simp only [Option.some.injEq, Prod.mk.injEq] at hs
              obtain ⟨rfl, rfl, rfl, _⟩ := hs
              exact ⟨by show q.1 ≤ _; omega, (fun k e => ⟨(h2 k e).1, by have := (h2 k e).2; show q.1 - k ≤ p + 1; omega⟩), (fun e => by cases e)⟩
            · cases hs
def au (t : Nat → Nat) : Nat → Nat → As → Option Nat × Qt
  | 0, p, s => if 0 < s.1.1 ∧ s.2.1 = none then (none, s.1) else (some p, s.1)
  | k + 1, p, s => match stp (t p) s with
    | none => (some p, s.1)
    | some s2 => au t k (p + 1) s2
set_option maxHeartbeats 400000 in
theorem au_no {t : Nat → Nat} {k p : Nat} {s : As} (h : stp (t p) s = none) : au t (k + 1) p s = (some p, s.1) := by
  show (match stp (t p) s with | none => _ | some s2 => _) = _
  rw [h]
set_option maxHeartbeats 400000 in
theorem au_go {t : Nat → Nat} {k p : Nat} {s s2 : As} (h : stp (t p) s = some s2) : au t (k + 1) p s = au t k (p + 1) s2 := by
  show (match stp (t p) s with | none => _ | some s2 => _) = _
  rw [h]
def tpf (S : Mm) (i : Nat) : Nat := nv (S 164 i)
def q0 : Qt := (0, fun _ => -1, fun _ => -1)
def rT (S : Mm) : Option Nat × Qt := au (tpf S) (tpd S) 0 (q0, none, false, false)
def pU_ (m S : Mm) : Option Value → Mm → Prop := fun v m' => fR m m' ∧ v = some (.int (opI (rT S).1)) ∧ ((rT S).1 = none → RQ m' (rT S).2 ∧ (rT S).2.1 ≤ 38400)
set_option maxHeartbeats 400000 in
theorem tpf_sg {S : Mm} (w : WF S) {i : Nat} (hi : i < 64) : (S 164 i).toInt8.toInt32 = sgv (tpf S i) ∧ tpf S i < 256 := by
  obtain ⟨k, hk, e⟩ := w.tv i hi
  unfold tpf sgv
  rw [e, nv_nI (by omega)]
  exact ⟨rfl, hk⟩

set_option maxHeartbeats 400000 in
theorem L_fault {G : Nat × (Nat → Int32)} {m : Mm} {S : Mm} (h : RC m S) (w : WF S) : ∀ p, p ≤ tpd S → ∀ m1 (q : Qt) (op : Option Nat) (aT aG : Bool), RR m1 q op aT aG → iv p q op aT → au (tpf S) (tpd S - p) p (q, op, aT, aG) = rT S → fR m m1 → Y G M_re_faultOf (0, 0) 23 [some (.ref 3), some (.ref 1), some (.int (nI p))] [] (LAY, m1) (qm_ LAY (pU_ m S)) := by
  have ht := w.tp.2
  refine ind_ (fun p hp ih m1 q op aT aG hR hI hA hF => ?_)
  refine Y_iload_n 14 rfl (pc2 := 24) rfl rfl ?_
  refine Y_aload_n 15 rfl (pc2 := 25) rfl rfl ?_
  refine Y_getI 16 rfl (pc2 := 28) rfl fl_re_33 ly_ta (by decide) rfl ?_
  refine Y_top ((congrFun (hF 1 (by decide)) 1).trans (h.tp.trans w.tp.1)) ?_
  refine Y_icmp_gen 17 rfl (pc2 := 31) rfl (tgt := 58) (by decide) (by omega) (by omega) (fun h28 => ?_) (fun h28 => ?_)
  · have hb := hI.1
    have e0 : tpd S - p = 0 := by omega
    rw [e0] at hA
    refine Y_aload_n 32 rfl (pc2 := 59) rfl rfl ?_
    refine Y_getI 33 rfl (pc2 := 62) rfl fl_re_18 ly_re (by decide) rfl ?_
    refine Y_top (hR.1.1) ?_
    refine Y_if_len 34 rfl (pc2 := 65) rfl (tgt := 79) (by decide) (by omega) (fun h62 => ?_) (fun h62 => ?_)
    · refine Y_aload_n 41 rfl (pc2 := 80) rfl rfl ?_
      refine Y_getI 42 rfl (pc2 := 83) rfl fl_re_33 ly_ta (by decide) rfl ?_
      refine Y_top ((congrFun (hF 1 (by decide)) 1).trans (h.tp.trans w.tp.1)) ?_
      refine Y_iret 43 rfl rfl rfl ⟨rfl, ?_⟩
      dsimp only
      have hon := opI_none (op := op) (fun k e => by have := (hI.2.1 k e).1; omega)
      first
        | exact (by
            have hA2 : (none, q) = rT S := (if_pos ⟨by show 0 < q.1; omega, hon.mp (by first | exact h71 | exact Classical.byContradiction h71)⟩).symm.trans hA
            exact ⟨hF, by rw [← hA2]; rfl, fun _ => by rw [← hA2]; exact ⟨hR.1, by show q.1 ≤ _; omega⟩⟩)
        | exact (by
            have hA2 : (some p, q) = rT S := (if_neg (fun e => by have : 0 < q.1 := e.1; omega)).symm.trans hA
            exact ⟨hF, by rw [← hA2, show p = tpd S by omega]; rfl, fun e => by rw [← hA2] at e; cases e⟩)
        | exact (by
            have hA2 : (some p, q) = rT S := (if_neg (fun e => h71 (hon.mpr e.2))).symm.trans hA
            exact ⟨hF, by rw [← hA2, show p = tpd S by omega]; rfl, fun e => by rw [← hA2] at e; cases e⟩)
    · refine Y_aload_n 35 rfl (pc2 := 66) rfl rfl ?_
      refine Y_getI 36 rfl (pc2 := 69) rfl fl_re_23 ly_re (by decide) rfl ?_
      refine Y_top (hR.2.1) ?_
      refine Y_ldc 37 rfl (pc2 := 71) rfl kc_re_22 ?_
      refine Y_icmp_ne 38 rfl (pc2 := 74) rfl (tgt := 79) (by decide) (fun h71 => ?_) (fun h71 => ?_)
      · refine Y_aload_n 41 rfl (pc2 := 80) rfl rfl ?_
        refine Y_getI 42 rfl (pc2 := 83) rfl fl_re_33 ly_ta (by decide) rfl ?_
        refine Y_top ((congrFun (hF 1 (by decide)) 1).trans (h.tp.trans w.tp.1)) ?_
        refine Y_iret 43 rfl rfl rfl ⟨rfl, ?_⟩
        dsimp only
        have hon := opI_none (op := op) (fun k e => by have := (hI.2.1 k e).1; omega)
        first
          | exact (by
              have hA2 : (none, q) = rT S := (if_pos ⟨by show 0 < q.1; omega, hon.mp (by first | exact h71 | exact Classical.byContradiction h71)⟩).symm.trans hA
              exact ⟨hF, by rw [← hA2]; rfl, fun _ => by rw [← hA2]; exact ⟨hR.1, by show q.1 ≤ _; omega⟩⟩)
          | exact (by
              have hA2 : (some p, q) = rT S := (if_neg (fun e => by have : 0 < q.1 := e.1; omega)).symm.trans hA
              exact ⟨hF, by rw [← hA2, show p = tpd S by omega]; rfl, fun e => by rw [← hA2] at e; cases e⟩)
          | exact (by
              have hA2 : (some p, q) = rT S := (if_neg (fun e => h71 (hon.mpr e.2))).symm.trans hA
              exact ⟨hF, by rw [← hA2, show p = tpd S by omega]; rfl, fun e => by rw [← hA2] at e; cases e⟩)
      · refine Y_ldc 39 rfl (pc2 := 76) rfl kc_re_22 ?_
        refine Y_goto 40 rfl (pc2 := 83) (by decide) ?_
        refine Y_iret 43 rfl rfl rfl ⟨rfl, ?_⟩
        dsimp only
        have hon := opI_none (op := op) (fun k e => by have := (hI.2.1 k e).1; omega)
        first
          | exact (by
              have hA2 : (none, q) = rT S := (if_pos ⟨by show 0 < q.1; omega, hon.mp (by first | exact h71 | exact Classical.byContradiction h71)⟩).symm.trans hA
              exact ⟨hF, by rw [← hA2]; rfl, fun _ => by rw [← hA2]; exact ⟨hR.1, by show q.1 ≤ _; omega⟩⟩)
          | exact (by
              have hA2 : (some p, q) = rT S := (if_neg (fun e => by have : 0 < q.1 := e.1; omega)).symm.trans hA
              exact ⟨hF, by rw [← hA2, show p = tpd S by omega]; rfl, fun e => by rw [← hA2] at e; cases e⟩)
          | exact (by
              have hA2 : (some p, q) = rT S := (if_neg (fun e => h71 (hon.mpr e.2))).symm.trans hA
              exact ⟨hF, by rw [← hA2, show p = tpd S by omega]; rfl, fun e => by rw [← hA2] at e; cases e⟩)
  · refine Y_iload_n 18 rfl (pc2 := 32) rfl rfl ?_
    refine Y_bipush 19 rfl (pc2 := 34) rfl (v := nI 64) (by decide) ?_
    refine Y_icmp_gen 20 rfl (pc2 := 37) rfl (tgt := 58) (by decide) (by omega) (by omega) (fun h34 => ?_) (fun h34 => ?_)
    · omega
    · refine Y_aload_n 21 rfl (pc2 := 38) rfl rfl ?_
      refine Y_aload_n 22 rfl (pc2 := 39) rfl rfl ?_
      refine Y_getR 23 rfl (pc2 := 42) rfl fl_re_38 ly_ta (by decide) rfl rfl (by omega) ?_
      refine Y_iload_n 24 rfl (pc2 := 43) rfl rfl ?_
      refine Y_bald 25 rfl (pc2 := 44) rfl ly_taB rfl (by omega) (by decide) ?_
      refine Y_top ((congrFun (hF 2 (by decide)) p).trans ((h.tv p (by omega)).trans (tpf_sg w (by omega)).1)) ?_
      refine Y_cV 26 rfl (pc2 := 47) rfl ok_re_takes lk_re_42 vi_re_takes ly_re rfl (by decide) rfl (as := [.int _]) (rest := []) rfl rfl (T_re_takes hR (by omega) hI (tpf_sg w (by omega)).2) ?_
      rintro _ _ ⟨hf, ⟨ho2, rfl⟩ | ⟨q2, op2, aT2, aG2, ho2, rfl, hR2⟩⟩
      · change Y _ _ _ _ _ [.int _] _ _
        refine Y_if_nen 27 rfl (pc2 := 50) rfl (tgt := 52) (by decide) (by decide) (fun hd => absurd hd (by decide)) (fun _ => ?_)
        refine Y_iload_n 28 rfl (pc2 := 51) rfl rfl ?_
        refine Y_iret 29 rfl rfl rfl ⟨rfl, ?_⟩
        dsimp only
        have e0 : tpd S - p = (tpd S - (p + 1)) + 1 := by omega
        rw [e0, au_no ho2] at hA
        exact ⟨fun a ha => (hf a ha).trans (hF a ha), by rw [← hA]; rfl, fun e => by rw [← hA] at e; cases e⟩
      · change Y _ _ _ _ _ [.int _] _ _
        refine Y_if_nen 27 rfl (pc2 := 50) rfl (tgt := 52) (by decide) (by decide) (fun _ => ?_) (fun hd => absurd hd (by decide))
        refine Y_iinc 30 rfl (pc2 := 55) rfl rfl (nI_inc _ 1) (ls2 := [some (.ref _), some (.ref _), some (.int _)]) rfl ?_
        refine Y_goto 31 rfl (pc2 := 23) (by decide) ?_
        have e0 : tpd S - p = (tpd S - (p + 1)) + 1 := by omega
        rw [e0, au_go ho2] at hA
        exact ih (p + 1) (by omega) (by omega) _ q2 op2 aT2 aG2 hR2 (iv_stp (by omega) hI ho2) hA (fun a ha => (hf a ha).trans (hF a ha))

set_option maxHeartbeats 400000 in
theorem T_re_faultOf {G : Nat × (Nat → Int32)} {m : Mm} {S : Mm} (h : RC m S) (w : WF S) : Y G M_re_faultOf (0, 0) 0 (en_ M_re_faultOf [.ref (3), .ref (1)]) [] (LAY, m) (qm_ LAY (pU_ m S)) := by
  change Y _ _ _ _ [some (.ref _), some (.ref _), none] _ _ _
  refine Y_aload_n 0 rfl (pc2 := 1) rfl rfl ?_
  refine Y_iconst 1 rfl (pc2 := 2) rfl (v := nI 0) (by decide) ?_
  refine Y_putI 2 rfl (pc2 := 5) rfl fl_re_18 ly_re (by decide) ⟨rfl, rfl⟩ ⟨_, _, _, rfl, rfl⟩ rfl ?_
  refine Y_aload_n 3 rfl (pc2 := 6) rfl rfl ?_
  refine Y_ldc 4 rfl (pc2 := 8) rfl kc_re_22 ?_
  refine Y_putI 5 rfl (pc2 := 11) rfl fl_re_23 ly_re (by decide) ⟨rfl, rfl⟩ ⟨_, _, _, rfl, rfl⟩ rfl ?_
  refine Y_aload_n 6 rfl (pc2 := 12) rfl rfl ?_
  refine Y_iconst 7 rfl (pc2 := 13) rfl (v := nI 0) (by decide) ?_
  refine Y_putI 8 rfl (pc2 := 16) rfl fl_re_26 ly_re (by decide) ⟨rfl, rfl⟩ ⟨_, _, _, rfl, rfl⟩ rfl ?_
  refine Y_aload_n 9 rfl (pc2 := 17) rfl rfl ?_
  refine Y_iconst 10 rfl (pc2 := 18) rfl (v := nI 0) (by decide) ?_
  refine Y_putI 11 rfl (pc2 := 21) rfl fl_re_30 ly_re (by decide) ⟨rfl, rfl⟩ ⟨_, _, _, rfl, rfl⟩ rfl ?_
  refine Y_iconst 12 rfl (pc2 := 22) rfl (v := nI 0) (by decide) ?_
  refine Y_istore_n 13 rfl (pc2 := 23) rfl (Nat.le_of_ble_eq_true rfl) (ls2 := [some (.ref _), some (.ref _), some (.int _)]) rfl ?_
  refine L_fault h w 0 (Nat.zero_le _) _ q0 none false false ⟨⟨?_, fun i h1 h2 => absurd h2 (Nat.not_lt_zero i)⟩, ?_, ?_, ?_⟩ ⟨Nat.zero_le _, (fun k e => by cases e), (fun e => by cases e)⟩ rfl (fR_u (fR_u (fR_u (fR_u fR_id))))
  · rw [uw_ne (by omega), uw_ne (by omega), uw_ne (by omega), uw_same]; rfl
  · rw [uw_ne (by omega), uw_ne (by omega), uw_same]; rfl
  · rw [uw_ne (by omega), uw_same]; rfl
  · rw [uw_same]; rfl
