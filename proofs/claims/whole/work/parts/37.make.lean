/-! THE CONSTRUCTORS: layouts lay ++ Z, the made cells behind those that were there -/
def z_ : Nat → Int32 := fun _ => 0
def ua_ (row : Nat → Int32) (k : Nat) (v : Int32) : Nat → Int32 := fun i => if i = k then v else row i
def rws (m : Mm) : Nat → List (Nat → Int32) → Prop
  | _, [] => True
  | n, R :: t => m n = R ∧ rws m (n + 1) t
set_option maxHeartbeats 400000 in
theorem rws_get {m : Mm} : ∀ (l : List (Nat → Int32)) (n : Nat), rws m n l → ∀ j R, l[j]? = some R → m (n + j) = R
  | [], _, _, j, R, h => by simp at h
  | _ :: t, n, h, 0, R, hj => by simp at hj; rw [← hj]; exact h.1
  | _ :: t, n, h, j + 1, R, hj => by
    have := rws_get t (n + 1) h.2 j R (by simpa using hj)
    rw [show n + (j + 1) = n + 1 + j by omega]; exact this
set_option maxHeartbeats 400000 in
theorem rws_fr {m m2 : Mm} : ∀ (l : List (Nat → Int32)) (n : Nat), rws m n l → (∀ b, n ≤ b → b < n + l.length → m2 b = m b) → rws m2 n l
  | [], _, _, _ => trivial
  | _ :: t, n, h, e => ⟨(e n (Nat.le_refl n) (by simp)).trans h.1, rws_fr t (n + 1) h.2 (fun b h1 h2 => e b (by omega) (by simp; omega))⟩
set_option maxHeartbeats 400000 in
theorem rws_app {m : Mm} : ∀ (l l2 : List (Nat → Int32)) (n : Nat), rws m n l → rws m (n + l.length) l2 → rws m n (l ++ l2)
  | [], _, _, _, h => h
  | _ :: t, l2, n, h, h2 => ⟨h.1, rws_app t l2 (n + 1) h.2 (by simp at h2; rw [show n + 1 + t.length = n + (t.length + 1) by omega]; exact h2)⟩
def pK (L Zn : Ly) (mm : Mm) (n : Nat) (Rn : List (Nat → Int32)) : Option Value → Sg → Prop := fun v σ => v = none ∧ σ.1 = L ++ Zn ∧ (∀ b, b < n → σ.2 b = mm b) ∧ rws σ.2 n Rn
set_option maxHeartbeats 400000 in
theorem sl_app (a b : Ly) : sl_ (a ++ b) = sl_ a + sl_ b := by simp [sl_]
set_option maxHeartbeats 400000 in
theorem zz_get {lay Z : Ly} {j : Nat} {e : Nat × Nat × List (Option Nat)} (h : Z[j]? = some e) : (lay ++ Z)[lay.length + j]? = some e := by
  rw [List.getElem?_append_right (by omega), show lay.length + j - lay.length = j by omega]; exact h
set_option maxHeartbeats 400000 in
theorem zz_set {lay Z : Ly} {j : Nat} {e : Nat × Nat × List (Option Nat)} : (lay ++ Z).set (lay.length + j) e = lay ++ Z.set j e := by
  rw [List.set_append_right _ _ (by omega), show lay.length + j - lay.length = j by omega]
section Y37
variable {G : Nat × (Nat → Int32)} {M : Mi} {cap : Nat × Nat} {pc pc2 : Nat} {ls ls2 : List (Option Value)} {st : List Value} {σ : Sg} {lay Z Z2 : Ly} {mm : Mm} {Q : Option Value → Sg → Prop}
set_option maxHeartbeats 400000 in
theorem Y_sg {σ2 : Sg} (he : σ = σ2) (k : Y G M cap pc ls st σ2 Q) : Y G M cap pc ls st σ Q := he ▸ k
set_option maxHeartbeats 400000 in
theorem Y_zputR {index ci j f n r : Nat} {rs : List (Option Nat)} (i : Nat) (h : (m_t M)[i]? = some (pc, .putfield index, 3)) (hp : pc + 3 = pc2) (hf : fl_ (m_y M).cls index ci f) (ha : Z[j]? = some (ci, n, rs)) (hn : f < n) (hrl : f < rs.length) (hr2 : r < 1000000) (ho : (∃ n, ty_c ci f = .object n) ∨ ∃ t, ty_c ci f = .array t) (hfin : ff_ (m_y M).cls ci f) (hin : (m_y M).name = "<init>") (hi : is_I (ty_c ci f) = false) (hZ : Z.set j (ci, n, rs.set f (some r)) = Z2) (k : Y G M cap pc2 ls st (lay ++ Z2, mm) Q) : Y G M cap pc ls (.ref r :: .ref (lay.length + j) :: st) (lay ++ Z, mm) Q := by
  subst hZ
  refine Y_putRF i h hp hf (zz_get ha) hn hrl hr2 ho hfin hin hi ?_
  rw [zz_set]
  exact k

set_option maxHeartbeats 400000 in
theorem Y_znewa_b {n zl : Nat} {x : Int32} (i : Nat) (h : (m_t M)[i]? = some (pc, .newarray .byte, 2)) (hp : pc + 2 = pc2) (hx : x = nI n) (hnn : n ≤ 100000) (hzl : Z.length = zl) (hc1 : lay.length + zl + 1 ≤ cap.1) (hc2 : sl_ lay + sl_ Z + n ≤ cap.2) (hln : lay.length + zl + 1 ≤ 1000000) (hZ : Z ++ [(11, n, [])] = Z2) (k : Y G M cap pc2 ls (.ref (lay.length + zl) :: st) (lay ++ Z2, ur_ mm (lay.length + zl) z_) Q) : Y G M cap pc ls (.int x :: st) (lay ++ Z, mm) Q := by
  subst hZ; subst hzl
  refine Y_newa_b i h hp ac_b hx hnn (by simp; omega) (by rw [sl_app]; omega) (by simp; omega) ?_
  rw [List.append_assoc, List.length_append]
  exact k

set_option maxHeartbeats 400000 in
theorem Y_znewa_i {n zl : Nat} {x : Int32} (i : Nat) (h : (m_t M)[i]? = some (pc, .newarray .int, 2)) (hp : pc + 2 = pc2) (hx : x = nI n) (hnn : n ≤ 100000) (hzl : Z.length = zl) (hc1 : lay.length + zl + 1 ≤ cap.1) (hc2 : sl_ lay + sl_ Z + n ≤ cap.2) (hln : lay.length + zl + 1 ≤ 1000000) (hZ : Z ++ [(12, n, [])] = Z2) (k : Y G M cap pc2 ls (.ref (lay.length + zl) :: st) (lay ++ Z2, ur_ mm (lay.length + zl) z_) Q) : Y G M cap pc ls (.int x :: st) (lay ++ Z, mm) Q := by
  subst hZ; subst hzl
  refine Y_newa_i i h hp ac_i hx hnn (by simp; omega) (by rw [sl_app]; omega) (by simp; omega) ?_
  rw [List.append_assoc, List.length_append]
  exact k

set_option maxHeartbeats 400000 in
theorem Y_znewa_z {n zl : Nat} {x : Int32} (i : Nat) (h : (m_t M)[i]? = some (pc, .newarray .boolean, 2)) (hp : pc + 2 = pc2) (hx : x = nI n) (hnn : n ≤ 100000) (hzl : Z.length = zl) (hc1 : lay.length + zl + 1 ≤ cap.1) (hc2 : sl_ lay + sl_ Z + n ≤ cap.2) (hln : lay.length + zl + 1 ≤ 1000000) (hZ : Z ++ [(13, n, [])] = Z2) (k : Y G M cap pc2 ls (.ref (lay.length + zl) :: st) (lay ++ Z2, ur_ mm (lay.length + zl) z_) Q) : Y G M cap pc ls (.int x :: st) (lay ++ Z, mm) Q := by
  subst hZ; subst hzl
  refine Y_newa_z i h hp ac_z hx hnn (by simp; omega) (by rw [sl_app]; omega) (by simp; omega) ?_
  rw [List.append_assoc, List.length_append]
  exact k

set_option maxHeartbeats 400000 in
theorem Y_mkc {index n C Sz : Nat} {M2 : Mi} {L Zn : Ly} {o : Nat × Nat × List (Option Nat)} {Rn : List (Nat → Int32)} {as rest : List Value} (i : Nat) (h : (m_t M)[i]? = some (pc, .invokespecial index, 3)) (hp : pc + 3 = pc2) (hM : Mok M2) (hl : lk_ (m_y M).cls index (m_y M2)) (hv : vn_ M2 as.length) (hn : L.length = n) (hN : n ≤ 1000) (hst : st = as.reverse ++ .ref n :: rest) (hk : ck_ M M2 as rest 1 = true) (hC : Zn.length = C + 1) (hS : sl_ Zn = o.2.1 + Sz) (hc1 : n + (C + 1) ≤ cap.1) (hc2 : sl_ L + (o.2.1 + Sz) ≤ cap.2) (hY : Y G M2 (n + (C + 1), sl_ L + (o.2.1 + Sz)) 0 (en_ M2 (.ref n :: as)) [] (L ++ [o], mm) (pK L Zn mm n Rn)) (k : ∀ m2 : Mm, (∀ b, b < n → m2 b = mm b) → rws m2 n Rn → Y G M cap pc2 ls rest (L ++ Zn, m2) Q) : Y G M cap pc ls st (L ++ [o], mm) Q := by
  subst hn
  have hu := ck_u hk
  have e1 : (L ++ [o]).length + C = L.length + (C + 1) := by simp; omega
  have e2 : sl_ (L ++ [o]) + Sz = sl_ L + (o.2.1 + Sz) := by rw [sl_app]; simp [sl_]; omega
  refine Y_callI (a := L.length) (mc := C) (ms := Sz) (P := pK L Zn mm L.length Rn) i h hp hM hl hv (by omega) hst hu.1 hu.2.1 hu.2.2.1 hu.2.2.2 (by omega) (by omega) ?_ ?_ ?_
  · rw [e1, e2]; exact hY
  · rintro v σ2 ⟨_, q, _, _⟩
    rw [q, e1, e2]
    refine ⟨?_, ?_⟩
    · simp [hC]
    · rw [sl_app, hS]
  · rintro v ⟨l2, m2⟩ ⟨rfl, q, q2, q3⟩
    have q' : l2 = L ++ Zn := q
    subst q'
    exact k m2 q2 q3
set_option maxHeartbeats 400000 in
theorem Y_znew {index ci N zl : Nat} (i : Nat) (h : (m_t M)[i]? = some (pc, .new index, 3)) (hp : pc + 3 = pc2) (hn : nc_ (m_y M).cls index ci N) (hzl : Z.length = zl) (hc1 : lay.length + zl + 1 ≤ cap.1) (hc2 : sl_ lay + sl_ Z + N ≤ cap.2) (hln : lay.length + zl + 1 ≤ 1000000) (k : Y G M cap pc2 ls (.ref (lay.length + zl) :: st) ((lay ++ Z) ++ [(ci, N, List.replicate N none)], ur_ mm (lay.length + zl) z_) Q) : Y G M cap pc ls st (lay ++ Z, mm) Q := by
  subst hzl
  refine Y_new i h hp hn (by simp; omega) (by rw [sl_app]; omega) (by simp; omega) ?_
  rw [List.length_append]
  exact k
set_option maxHeartbeats 400000 in
theorem Y_zaast {ja jr j n kd ci cn : Nat} {qq : vw_C} {rs crs : List (Option Nat)} {x : Int32} (i : Nat) (h : (m_t M)[i]? = some (pc, .aastore, 1)) (hp : pc + 1 = pc2) (ha : Z[ja]? = some (kd, n, rs)) (hkd : 14 ≤ kd) (hv : Z[jr]? = some (ci, cn, crs)) (hci : ci < 11) (hc : vwCl[ci]? = some qq) (ht : ∀ cA : Nat → ClassId, (ty_s cA)[kd - 11]? = some (cA kd, .object qq.1)) (hx : x = nI j) (hj : j < n) (hn : n < 2 ^ 31) (hjr : j < rs.length) (hb : lay.length + jr < 1000000) (hZ : Z.set ja (kd, n, rs.set j (some (lay.length + jr))) = Z2) (k : Y G M cap pc2 ls st (lay ++ Z2, mm) Q) : Y G M cap pc ls (.ref (lay.length + jr) :: .int x :: .ref (lay.length + ja) :: st) (lay ++ Z, mm) Q := by
  subst hZ
  refine Y_aast i h hp (zz_get ha) hkd (zz_get hv) hci hc ht hx hj hn hjr ?_
  rw [zz_set]
  exact k

set_option maxHeartbeats 400000 in
theorem Y_znewq_Circle {index n zl : Nat} {x : Int32} (i : Nat) (h : (m_t M)[i]? = some (pc, .anewarray index, 3)) (hp : pc + 3 = pc2) (hw : Cond.classLink (m_y M).cls index "GongHouse$Circle" ∈ Tb) (hx : x = nI n) (hnn : n ≤ 100000) (hzl : Z.length = zl) (hc1 : lay.length + zl + 1 ≤ cap.1) (hc2 : sl_ lay + sl_ Z + n ≤ cap.2) (hln : lay.length + zl + 1 ≤ 1000000) (hZ : Z ++ [(14, n, List.replicate n none)] = Z2) (k : Y G M cap pc2 ls (.ref (lay.length + zl) :: st) (lay ++ Z2, ur_ mm (lay.length + zl) z_) Q) : Y G M cap pc ls (.int x :: st) (lay ++ Z, mm) Q := by
  subst hZ; subst hzl
  refine Y_newq_Circle i h hp hw hx hnn (by simp; omega) (by rw [sl_app]; omega) (by simp; omega) ?_
  rw [List.append_assoc, List.length_append]
  exact k

set_option maxHeartbeats 400000 in
theorem Y_znewq_Figure {index n zl : Nat} {x : Int32} (i : Nat) (h : (m_t M)[i]? = some (pc, .anewarray index, 3)) (hp : pc + 3 = pc2) (hw : Cond.classLink (m_y M).cls index "GongHouse$Figure" ∈ Tb) (hx : x = nI n) (hnn : n ≤ 100000) (hzl : Z.length = zl) (hc1 : lay.length + zl + 1 ≤ cap.1) (hc2 : sl_ lay + sl_ Z + n ≤ cap.2) (hln : lay.length + zl + 1 ≤ 1000000) (hZ : Z ++ [(15, n, List.replicate n none)] = Z2) (k : Y G M cap pc2 ls (.ref (lay.length + zl) :: st) (lay ++ Z2, ur_ mm (lay.length + zl) z_) Q) : Y G M cap pc ls (.int x :: st) (lay ++ Z, mm) Q := by
  subst hZ; subst hzl
  refine Y_newq_Figure i h hp hw hx hnn (by simp; omega) (by rw [sl_app]; omega) (by simp; omega) ?_
  rw [List.append_assoc, List.length_append]
  exact k

set_option maxHeartbeats 400000 in
theorem Y_znewq_Level {index n zl : Nat} {x : Int32} (i : Nat) (h : (m_t M)[i]? = some (pc, .anewarray index, 3)) (hp : pc + 3 = pc2) (hw : Cond.classLink (m_y M).cls index "GongHouse$Level" ∈ Tb) (hx : x = nI n) (hnn : n ≤ 100000) (hzl : Z.length = zl) (hc1 : lay.length + zl + 1 ≤ cap.1) (hc2 : sl_ lay + sl_ Z + n ≤ cap.2) (hln : lay.length + zl + 1 ≤ 1000000) (hZ : Z ++ [(16, n, List.replicate n none)] = Z2) (k : Y G M cap pc2 ls (.ref (lay.length + zl) :: st) (lay ++ Z2, ur_ mm (lay.length + zl) z_) Q) : Y G M cap pc ls (.int x :: st) (lay ++ Z, mm) Q := by
  subst hZ; subst hzl
  refine Y_newq_Level i h hp hw hx hnn (by simp; omega) (by rw [sl_app]; omega) (by simp; omega) ?_
  rw [List.append_assoc, List.length_append]
  exact k

set_option maxHeartbeats 400000 in
theorem Y_znewq_Sheet {index n zl : Nat} {x : Int32} (i : Nat) (h : (m_t M)[i]? = some (pc, .anewarray index, 3)) (hp : pc + 3 = pc2) (hw : Cond.classLink (m_y M).cls index "GongHouse$Sheet" ∈ Tb) (hx : x = nI n) (hnn : n ≤ 100000) (hzl : Z.length = zl) (hc1 : lay.length + zl + 1 ≤ cap.1) (hc2 : sl_ lay + sl_ Z + n ≤ cap.2) (hln : lay.length + zl + 1 ≤ 1000000) (hZ : Z ++ [(17, n, List.replicate n none)] = Z2) (k : Y G M cap pc2 ls (.ref (lay.length + zl) :: st) (lay ++ Z2, ur_ mm (lay.length + zl) z_) Q) : Y G M cap pc ls (.int x :: st) (lay ++ Z, mm) Q := by
  subst hZ; subst hzl
  refine Y_newq_Sheet i h hp hw hx hnn (by simp; omega) (by rw [sl_app]; omega) (by simp; omega) ?_
  rw [List.append_assoc, List.length_append]
  exact k

end Y37

set_option maxHeartbeats 400000 in
theorem K_ta_init {G : Nat × (Nat → Int32)} {lay : Ly} {mm : Mm} {n : Nat}  (hn : lay.length = n) (hN : n ≤ 1000) (hz0 : mm n = z_) : Y G M_ta_init (n + 2, sl_ lay + (2 + (64))) 0 (en_ M_ta_init [.ref n]) [] (lay ++ [(6, 2, [none, none])], mm) (pK lay [(6, 2, [some (n + 1), none]), (11, 64, [])] mm n [(ua_ (z_) 1 (nI 0)), (z_)]) := by
  subst hn
  change Y _ _ _ _ [some (.ref (lay.length + 0))] _ _ _
  refine Y_aload_n 0 rfl (pc2 := 1) rfl rfl ?_
  refine Y_objInit 1 rfl (pc2 := 4) rfl lk_ta_3 jd_oi jd_oc (by omega) (by decide) (Nat.le_of_ble_eq_true rfl) ?_
  refine Y_aload_n 2 rfl (pc2 := 5) rfl rfl ?_
  refine Y_bipush 3 rfl (pc2 := 7) rfl (v := nI 64) (by decide) ?_
  refine Y_znewa_b 4 rfl (pc2 := 9) rfl rfl (by omega) (zl := 1) rfl (by dsimp only; omega) (by simp only [sl_, List.map, List.sum_cons, List.sum_nil]; omega) (by omega) (Z2 := [(6, 2, [none, none]), (11, 64, [])]) rfl ?_
  refine Y_zputR 5 rfl (pc2 := 12) rfl fl_ta_9 rfl (by decide) (Nat.le_of_ble_eq_true rfl) (by omega) (Or.inr ⟨_, rfl⟩) ⟨_, _, _, rfl, rfl, rfl⟩ rfl rfl (Z2 := [(6, 2, [some (lay.length + 1), none]), (11, 64, [])]) rfl ?_
  refine Y_aload_n 6 rfl (pc2 := 13) rfl rfl ?_
  refine Y_iconst 7 rfl (pc2 := 14) rfl (v := nI 0) (by decide) ?_
  refine Y_putI 8 rfl (pc2 := 17) rfl fl_ta_15 (zz_get rfl) (by decide) ⟨rfl, rfl⟩ ⟨_, _, _, rfl, rfl⟩ rfl ?_
  refine Y_vret 9 rfl rfl ?_
  refine ⟨rfl, rfl, fun b hb => ?_, ?_, ?_, trivial⟩
  · dsimp only
    funext k
    simp [uw_, ur_, Nat.ne_of_lt hb, show ∀ j, ¬ b = lay.length + j from fun j => by omega]
  · dsimp only
    funext k
    simp [uw_, ur_, flr, ua_, z_, hz0, Nat.add_assoc, NONE_]
  · dsimp only
    funext k
    simp [uw_, ur_, flr, ua_, z_, hz0, Nat.add_assoc, NONE_]

set_option maxHeartbeats 400000 in
theorem K_re_init {G : Nat × (Nat → Int32)} {lay : Ly} {mm : Mm} {n : Nat}  (hn : lay.length = n) (hN : n ≤ 1000) (hz0 : mm n = z_) : Y G M_re_init (n + 3, sl_ lay + (6 + (32 + 32))) 0 (en_ M_re_init [.ref n]) [] (lay ++ [(7, 6, [none, none, none, none, none, none])], mm) (pK lay [(7, 6, [some (n + 1), some (n + 2), none, none, none, none]), (12, 32, []), (12, 32, [])] mm n [(ua_ (ua_ (ua_ (ua_ (z_) 2 (nI 0)) 3 (NONE_)) 4 (nI 0)) 5 (nI 0)), (z_), (z_)]) := by
  subst hn
  change Y _ _ _ _ [some (.ref (lay.length + 0))] _ _ _
  refine Y_aload_n 0 rfl (pc2 := 1) rfl rfl ?_
  refine Y_objInit 1 rfl (pc2 := 4) rfl lk_re_3 jd_oi jd_oc (by omega) (by decide) (Nat.le_of_ble_eq_true rfl) ?_
  refine Y_aload_n 2 rfl (pc2 := 5) rfl rfl ?_
  refine Y_bipush 3 rfl (pc2 := 7) rfl (v := nI 32) (by decide) ?_
  refine Y_znewa_i 4 rfl (pc2 := 9) rfl rfl (by omega) (zl := 1) rfl (by dsimp only; omega) (by simp only [sl_, List.map, List.sum_cons, List.sum_nil]; omega) (by omega) (Z2 := [(7, 6, [none, none, none, none, none, none]), (12, 32, [])]) rfl ?_
  refine Y_zputR 5 rfl (pc2 := 12) rfl fl_re_9 rfl (by decide) (Nat.le_of_ble_eq_true rfl) (by omega) (Or.inr ⟨_, rfl⟩) ⟨_, _, _, rfl, rfl, rfl⟩ rfl rfl (Z2 := [(7, 6, [some (lay.length + 1), none, none, none, none, none]), (12, 32, [])]) rfl ?_
  refine Y_aload_n 6 rfl (pc2 := 13) rfl rfl ?_
  refine Y_bipush 7 rfl (pc2 := 15) rfl (v := nI 32) (by decide) ?_
  refine Y_znewa_i 8 rfl (pc2 := 17) rfl rfl (by omega) (zl := 2) rfl (by dsimp only; omega) (by simp only [sl_, List.map, List.sum_cons, List.sum_nil]; omega) (by omega) (Z2 := [(7, 6, [some (lay.length + 1), none, none, none, none, none]), (12, 32, []), (12, 32, [])]) rfl ?_
  refine Y_zputR 9 rfl (pc2 := 20) rfl fl_re_15 rfl (by decide) (Nat.le_of_ble_eq_true rfl) (by omega) (Or.inr ⟨_, rfl⟩) ⟨_, _, _, rfl, rfl, rfl⟩ rfl rfl (Z2 := [(7, 6, [some (lay.length + 1), some (lay.length + 2), none, none, none, none]), (12, 32, []), (12, 32, [])]) rfl ?_
  refine Y_aload_n 10 rfl (pc2 := 21) rfl rfl ?_
  refine Y_iconst 11 rfl (pc2 := 22) rfl (v := nI 0) (by decide) ?_
  refine Y_putI 12 rfl (pc2 := 25) rfl fl_re_18 (zz_get rfl) (by decide) ⟨rfl, rfl⟩ ⟨_, _, _, rfl, rfl⟩ rfl ?_
  refine Y_aload_n 13 rfl (pc2 := 26) rfl rfl ?_
  refine Y_ldc 14 rfl (pc2 := 28) rfl kc_re_22 ?_
  refine Y_putI 15 rfl (pc2 := 31) rfl fl_re_23 (zz_get rfl) (by decide) ⟨rfl, rfl⟩ ⟨_, _, _, rfl, rfl⟩ rfl ?_
  refine Y_aload_n 16 rfl (pc2 := 32) rfl rfl ?_
  refine Y_iconst 17 rfl (pc2 := 33) rfl (v := nI 0) (by decide) ?_
  refine Y_putI 18 rfl (pc2 := 36) rfl fl_re_26 (zz_get rfl) (by decide) ⟨rfl, rfl⟩ ⟨_, _, _, rfl, rfl⟩ rfl ?_
  refine Y_aload_n 19 rfl (pc2 := 37) rfl rfl ?_
  refine Y_iconst 20 rfl (pc2 := 38) rfl (v := nI 0) (by decide) ?_
  refine Y_putI 21 rfl (pc2 := 41) rfl fl_re_30 (zz_get rfl) (by decide) ⟨rfl, rfl⟩ ⟨_, _, _, rfl, rfl⟩ rfl ?_
  refine Y_vret 22 rfl rfl ?_
  refine ⟨rfl, rfl, fun b hb => ?_, ?_, ?_, ?_, trivial⟩
  · dsimp only
    funext k
    simp [uw_, ur_, Nat.ne_of_lt hb, show ∀ j, ¬ b = lay.length + j from fun j => by omega]
  · dsimp only
    funext k
    simp [uw_, ur_, flr, ua_, z_, hz0, Nat.add_assoc, NONE_]
  · dsimp only
    funext k
    simp [uw_, ur_, flr, ua_, z_, hz0, Nat.add_assoc, NONE_]
  · dsimp only
    funext k
    simp [uw_, ur_, flr, ua_, z_, hz0, Nat.add_assoc, NONE_]

set_option maxHeartbeats 400000 in
theorem K_pi_init {G : Nat × (Nat → Int32)} {lay : Ly} {mm : Mm} {n : Nat}  (hn : lay.length = n) (hN : n ≤ 1000) (hz0 : mm n = z_) : Y G M_pi_init (n + 5, sl_ lay + (6 + (16 + 16 + 16 + 144))) 0 (en_ M_pi_init [.ref n]) [] (lay ++ [(4, 6, [none, none, none, none, none, none])], mm) (pK lay [(4, 6, [some (n + 1), some (n + 2), some (n + 3), some (n + 4), none, none]), (12, 16, []), (12, 16, []), (12, 16, []), (12, 144, [])] mm n [(ua_ (ua_ (z_) 4 (nI 0)) 5 (nI 0)), (z_), (z_), (z_), (flr (z_) (144) NONE_)]) := by
  subst hn
  change Y _ _ _ _ [some (.ref (lay.length + 0))] _ _ _
  refine Y_aload_n 0 rfl (pc2 := 1) rfl rfl ?_
  refine Y_objInit 1 rfl (pc2 := 4) rfl lk_pi_3 jd_oi jd_oc (by omega) (by decide) (Nat.le_of_ble_eq_true rfl) ?_
  refine Y_aload_n 2 rfl (pc2 := 5) rfl rfl ?_
  refine Y_bipush 3 rfl (pc2 := 7) rfl (v := nI 16) (by decide) ?_
  refine Y_znewa_i 4 rfl (pc2 := 9) rfl rfl (by omega) (zl := 1) rfl (by dsimp only; omega) (by simp only [sl_, List.map, List.sum_cons, List.sum_nil]; omega) (by omega) (Z2 := [(4, 6, [none, none, none, none, none, none]), (12, 16, [])]) rfl ?_
  refine Y_zputR 5 rfl (pc2 := 12) rfl fl_pi_9 rfl (by decide) (Nat.le_of_ble_eq_true rfl) (by omega) (Or.inr ⟨_, rfl⟩) ⟨_, _, _, rfl, rfl, rfl⟩ rfl rfl (Z2 := [(4, 6, [some (lay.length + 1), none, none, none, none, none]), (12, 16, [])]) rfl ?_
  refine Y_aload_n 6 rfl (pc2 := 13) rfl rfl ?_
  refine Y_bipush 7 rfl (pc2 := 15) rfl (v := nI 16) (by decide) ?_
  refine Y_znewa_i 8 rfl (pc2 := 17) rfl rfl (by omega) (zl := 2) rfl (by dsimp only; omega) (by simp only [sl_, List.map, List.sum_cons, List.sum_nil]; omega) (by omega) (Z2 := [(4, 6, [some (lay.length + 1), none, none, none, none, none]), (12, 16, []), (12, 16, [])]) rfl ?_
  refine Y_zputR 9 rfl (pc2 := 20) rfl fl_pi_15 rfl (by decide) (Nat.le_of_ble_eq_true rfl) (by omega) (Or.inr ⟨_, rfl⟩) ⟨_, _, _, rfl, rfl, rfl⟩ rfl rfl (Z2 := [(4, 6, [some (lay.length + 1), some (lay.length + 2), none, none, none, none]), (12, 16, []), (12, 16, [])]) rfl ?_
  refine Y_aload_n 10 rfl (pc2 := 21) rfl rfl ?_
  refine Y_bipush 11 rfl (pc2 := 23) rfl (v := nI 16) (by decide) ?_
  refine Y_znewa_i 12 rfl (pc2 := 25) rfl rfl (by omega) (zl := 3) rfl (by dsimp only; omega) (by simp only [sl_, List.map, List.sum_cons, List.sum_nil]; omega) (by omega) (Z2 := [(4, 6, [some (lay.length + 1), some (lay.length + 2), none, none, none, none]), (12, 16, []), (12, 16, []), (12, 16, [])]) rfl ?_
  refine Y_zputR 13 rfl (pc2 := 28) rfl fl_pi_18 rfl (by decide) (Nat.le_of_ble_eq_true rfl) (by omega) (Or.inr ⟨_, rfl⟩) ⟨_, _, _, rfl, rfl, rfl⟩ rfl rfl (Z2 := [(4, 6, [some (lay.length + 1), some (lay.length + 2), some (lay.length + 3), none, none, none]), (12, 16, []), (12, 16, []), (12, 16, [])]) rfl ?_
  refine Y_aload_n 14 rfl (pc2 := 29) rfl rfl ?_
  refine Y_sipush 15 rfl (pc2 := 32) rfl (v := nI 144) (by decide) ?_
  refine Y_znewa_i 16 rfl (pc2 := 34) rfl rfl (by omega) (zl := 4) rfl (by dsimp only; omega) (by simp only [sl_, List.map, List.sum_cons, List.sum_nil]; omega) (by omega) (Z2 := [(4, 6, [some (lay.length + 1), some (lay.length + 2), some (lay.length + 3), none, none, none]), (12, 16, []), (12, 16, []), (12, 16, []), (12, 144, [])]) rfl ?_
  refine Y_zputR 17 rfl (pc2 := 37) rfl fl_pi_21 rfl (by decide) (Nat.le_of_ble_eq_true rfl) (by omega) (Or.inr ⟨_, rfl⟩) ⟨_, _, _, rfl, rfl, rfl⟩ rfl rfl (Z2 := [(4, 6, [some (lay.length + 1), some (lay.length + 2), some (lay.length + 3), some (lay.length + 4), none, none]), (12, 16, []), (12, 16, []), (12, 16, []), (12, 144, [])]) rfl ?_
  refine Y_aload_n 18 rfl (pc2 := 38) rfl rfl ?_
  refine Y_iconst 19 rfl (pc2 := 39) rfl (v := nI 0) (by decide) ?_
  refine Y_putI 20 rfl (pc2 := 42) rfl fl_pi_24 (zz_get rfl) (by decide) ⟨rfl, rfl⟩ ⟨_, _, _, rfl, rfl⟩ rfl ?_
  refine Y_aload_n 21 rfl (pc2 := 43) rfl rfl ?_
  refine Y_iconst 22 rfl (pc2 := 44) rfl (v := nI 0) (by decide) ?_
  refine Y_putI 23 rfl (pc2 := 47) rfl fl_pi_28 (zz_get rfl) (by decide) ⟨rfl, rfl⟩ ⟨_, _, _, rfl, rfl⟩ rfl ?_
  refine Y_aload_n 24 rfl (pc2 := 48) rfl rfl ?_
  refine Y_getR 25 rfl (pc2 := 51) rfl fl_pi_21 (zz_get rfl) (by decide) rfl rfl (by omega) ?_
  refine Y_ldc 26 rfl (pc2 := 53) rfl kc_pi_31 ?_
  refine Y_cS 27 rfl (pc2 := 56) rfl ok_ar_filli lk_pi_32 vs_ar_filli (as := [.ref _, .int _]) (rest := []) rfl rfl (T_ar_filli (zz_get rfl) (by omega)) ?_
  rintro _ _ ⟨rfl, rfl⟩
  change Y _ _ _ _ _ [] _ _
  refine Y_vret 28 rfl rfl ?_
  refine ⟨rfl, rfl, fun b hb => ?_, ?_, ?_, ?_, ?_, ?_, trivial⟩
  · dsimp only
    funext k
    simp [uw_, ur_, Nat.ne_of_lt hb, show ∀ j, ¬ b = lay.length + j from fun j => by omega]
  · dsimp only
    funext k
    simp [uw_, ur_, flr, ua_, z_, hz0, Nat.add_assoc, NONE_]
  · dsimp only
    funext k
    simp [uw_, ur_, flr, ua_, z_, hz0, Nat.add_assoc, NONE_]
  · dsimp only
    funext k
    simp [uw_, ur_, flr, ua_, z_, hz0, Nat.add_assoc, NONE_]
  · dsimp only
    funext k
    simp [uw_, ur_, flr, ua_, z_, hz0, Nat.add_assoc, NONE_]
  · dsimp only
    funext k
    simp [uw_, ur_, flr, ua_, z_, hz0, Nat.add_assoc, NONE_]

set_option maxHeartbeats 400000 in
theorem K_wa_init {G : Nat × (Nat → Int32)} {lay : Ly} {mm : Mm} {n : Nat}  (hn : lay.length = n) (hN : n ≤ 1000) (hz0 : mm n = z_) : Y G M_wa_init (n + 1, sl_ lay + (4 + (0))) 0 (en_ M_wa_init [.ref n]) [] (lay ++ [(8, 4, [none, none, none, none])], mm) (pK lay [(8, 4, [none, none, none, none])] mm n [(ua_ (ua_ (ua_ (ua_ (z_) 0 (nI 0)) 1 (nI 0)) 2 (nI 0)) 3 (nI 0))]) := by
  subst hn
  change Y _ _ _ _ [some (.ref (lay.length + 0))] _ _ _
  refine Y_aload_n 0 rfl (pc2 := 1) rfl rfl ?_
  refine Y_objInit 1 rfl (pc2 := 4) rfl lk_wa_3 jd_oi jd_oc (by omega) (by decide) (Nat.le_of_ble_eq_true rfl) ?_
  refine Y_aload_n 2 rfl (pc2 := 5) rfl rfl ?_
  refine Y_iconst 3 rfl (pc2 := 6) rfl (v := nI 0) (by decide) ?_
  refine Y_putI 4 rfl (pc2 := 9) rfl fl_wa_9 (zz_get rfl) (by decide) ⟨rfl, rfl⟩ ⟨_, _, _, rfl, rfl⟩ rfl ?_
  refine Y_aload_n 5 rfl (pc2 := 10) rfl rfl ?_
  refine Y_iconst 6 rfl (pc2 := 11) rfl (v := nI 0) (by decide) ?_
  refine Y_putI 7 rfl (pc2 := 14) rfl fl_wa_15 (zz_get rfl) (by decide) ⟨rfl, rfl⟩ ⟨_, _, _, rfl, rfl⟩ rfl ?_
  refine Y_aload_n 8 rfl (pc2 := 15) rfl rfl ?_
  refine Y_iconst 9 rfl (pc2 := 16) rfl (v := nI 0) (by decide) ?_
  refine Y_putI 10 rfl (pc2 := 19) rfl fl_wa_18 (zz_get rfl) (by decide) ⟨rfl, rfl⟩ ⟨_, _, _, rfl, rfl⟩ rfl ?_
  refine Y_aload_n 11 rfl (pc2 := 20) rfl rfl ?_
  refine Y_iconst 12 rfl (pc2 := 21) rfl (v := nI 0) (by decide) ?_
  refine Y_putI 13 rfl (pc2 := 24) rfl fl_wa_21 (zz_get rfl) (by decide) ⟨rfl, rfl⟩ ⟨_, _, _, rfl, rfl⟩ rfl ?_
  refine Y_vret 14 rfl rfl ?_
  refine ⟨rfl, rfl, fun b hb => ?_, ?_, trivial⟩
  · dsimp only
    funext k
    simp [uw_, ur_, Nat.ne_of_lt hb, show ∀ j, ¬ b = lay.length + j from fun j => by omega]
  · dsimp only
    funext k
    simp [uw_, ur_, flr, ua_, z_, hz0, Nat.add_assoc, NONE_]

set_option maxHeartbeats 400000 in
theorem K_li_init {G : Nat × (Nat → Int32)} {lay : Ly} {mm : Mm} {n : Nat}  (hn : lay.length = n) (hN : n ≤ 1000) (hz0 : mm n = z_) : Y G M_li_init (n + 6, sl_ lay + (5 + (42 + 42 + 42 + 3 + 6))) 0 (en_ M_li_init [.ref n]) [] (lay ++ [(3, 5, [none, none, none, none, none])], mm) (pK lay [(3, 5, [some (n + 1), some (n + 2), some (n + 3), some (n + 4), some (n + 5)]), (12, 42, []), (12, 42, []), (12, 42, []), (12, 3, []), (13, 6, [])] mm n [(z_), (z_), (z_), (z_), (z_), (z_)]) := by
  subst hn
  change Y _ _ _ _ [some (.ref (lay.length + 0))] _ _ _
  refine Y_aload_n 0 rfl (pc2 := 1) rfl rfl ?_
  refine Y_objInit 1 rfl (pc2 := 4) rfl lk_li_3 jd_oi jd_oc (by omega) (by decide) (Nat.le_of_ble_eq_true rfl) ?_
  refine Y_aload_n 2 rfl (pc2 := 5) rfl rfl ?_
  refine Y_bipush 3 rfl (pc2 := 7) rfl (v := nI 42) (by decide) ?_
  refine Y_znewa_i 4 rfl (pc2 := 9) rfl rfl (by omega) (zl := 1) rfl (by dsimp only; omega) (by simp only [sl_, List.map, List.sum_cons, List.sum_nil]; omega) (by omega) (Z2 := [(3, 5, [none, none, none, none, none]), (12, 42, [])]) rfl ?_
  refine Y_zputR 5 rfl (pc2 := 12) rfl fl_li_9 rfl (by decide) (Nat.le_of_ble_eq_true rfl) (by omega) (Or.inr ⟨_, rfl⟩) ⟨_, _, _, rfl, rfl, rfl⟩ rfl rfl (Z2 := [(3, 5, [some (lay.length + 1), none, none, none, none]), (12, 42, [])]) rfl ?_
  refine Y_aload_n 6 rfl (pc2 := 13) rfl rfl ?_
  refine Y_bipush 7 rfl (pc2 := 15) rfl (v := nI 42) (by decide) ?_
  refine Y_znewa_i 8 rfl (pc2 := 17) rfl rfl (by omega) (zl := 2) rfl (by dsimp only; omega) (by simp only [sl_, List.map, List.sum_cons, List.sum_nil]; omega) (by omega) (Z2 := [(3, 5, [some (lay.length + 1), none, none, none, none]), (12, 42, []), (12, 42, [])]) rfl ?_
  refine Y_zputR 9 rfl (pc2 := 20) rfl fl_li_15 rfl (by decide) (Nat.le_of_ble_eq_true rfl) (by omega) (Or.inr ⟨_, rfl⟩) ⟨_, _, _, rfl, rfl, rfl⟩ rfl rfl (Z2 := [(3, 5, [some (lay.length + 1), some (lay.length + 2), none, none, none]), (12, 42, []), (12, 42, [])]) rfl ?_
  refine Y_aload_n 10 rfl (pc2 := 21) rfl rfl ?_
  refine Y_bipush 11 rfl (pc2 := 23) rfl (v := nI 42) (by decide) ?_
  refine Y_znewa_i 12 rfl (pc2 := 25) rfl rfl (by omega) (zl := 3) rfl (by dsimp only; omega) (by simp only [sl_, List.map, List.sum_cons, List.sum_nil]; omega) (by omega) (Z2 := [(3, 5, [some (lay.length + 1), some (lay.length + 2), none, none, none]), (12, 42, []), (12, 42, []), (12, 42, [])]) rfl ?_
  refine Y_zputR 13 rfl (pc2 := 28) rfl fl_li_18 rfl (by decide) (Nat.le_of_ble_eq_true rfl) (by omega) (Or.inr ⟨_, rfl⟩) ⟨_, _, _, rfl, rfl, rfl⟩ rfl rfl (Z2 := [(3, 5, [some (lay.length + 1), some (lay.length + 2), some (lay.length + 3), none, none]), (12, 42, []), (12, 42, []), (12, 42, [])]) rfl ?_
  refine Y_aload_n 14 rfl (pc2 := 29) rfl rfl ?_
  refine Y_iconst 15 rfl (pc2 := 30) rfl (v := nI 3) (by decide) ?_
  refine Y_znewa_i 16 rfl (pc2 := 32) rfl rfl (by omega) (zl := 4) rfl (by dsimp only; omega) (by simp only [sl_, List.map, List.sum_cons, List.sum_nil]; omega) (by omega) (Z2 := [(3, 5, [some (lay.length + 1), some (lay.length + 2), some (lay.length + 3), none, none]), (12, 42, []), (12, 42, []), (12, 42, []), (12, 3, [])]) rfl ?_
  refine Y_zputR 17 rfl (pc2 := 35) rfl fl_li_21 rfl (by decide) (Nat.le_of_ble_eq_true rfl) (by omega) (Or.inr ⟨_, rfl⟩) ⟨_, _, _, rfl, rfl, rfl⟩ rfl rfl (Z2 := [(3, 5, [some (lay.length + 1), some (lay.length + 2), some (lay.length + 3), some (lay.length + 4), none]), (12, 42, []), (12, 42, []), (12, 42, []), (12, 3, [])]) rfl ?_
  refine Y_aload_n 18 rfl (pc2 := 36) rfl rfl ?_
  refine Y_bipush 19 rfl (pc2 := 38) rfl (v := nI 6) (by decide) ?_
  refine Y_znewa_z 20 rfl (pc2 := 40) rfl rfl (by omega) (zl := 5) rfl (by dsimp only; omega) (by simp only [sl_, List.map, List.sum_cons, List.sum_nil]; omega) (by omega) (Z2 := [(3, 5, [some (lay.length + 1), some (lay.length + 2), some (lay.length + 3), some (lay.length + 4), none]), (12, 42, []), (12, 42, []), (12, 42, []), (12, 3, []), (13, 6, [])]) rfl ?_
  refine Y_zputR 21 rfl (pc2 := 43) rfl fl_li_24 rfl (by decide) (Nat.le_of_ble_eq_true rfl) (by omega) (Or.inr ⟨_, rfl⟩) ⟨_, _, _, rfl, rfl, rfl⟩ rfl rfl (Z2 := [(3, 5, [some (lay.length + 1), some (lay.length + 2), some (lay.length + 3), some (lay.length + 4), some (lay.length + 5)]), (12, 42, []), (12, 42, []), (12, 42, []), (12, 3, []), (13, 6, [])]) rfl ?_
  refine Y_vret 22 rfl rfl ?_
  refine ⟨rfl, rfl, fun b hb => ?_, ?_, ?_, ?_, ?_, ?_, ?_, trivial⟩
  · dsimp only
    funext k
    simp [uw_, ur_, Nat.ne_of_lt hb, show ∀ j, ¬ b = lay.length + j from fun j => by omega]
  · dsimp only
    funext k
    simp [uw_, ur_, flr, ua_, z_, hz0, Nat.add_assoc, NONE_]
  · dsimp only
    funext k
    simp [uw_, ur_, flr, ua_, z_, hz0, Nat.add_assoc, NONE_]
  · dsimp only
    funext k
    simp [uw_, ur_, flr, ua_, z_, hz0, Nat.add_assoc, NONE_]
  · dsimp only
    funext k
    simp [uw_, ur_, flr, ua_, z_, hz0, Nat.add_assoc, NONE_]
  · dsimp only
    funext k
    simp [uw_, ur_, flr, ua_, z_, hz0, Nat.add_assoc, NONE_]
  · dsimp only
    funext k
    simp [uw_, ur_, flr, ua_, z_, hz0, Nat.add_assoc, NONE_]

set_option maxHeartbeats 400000 in
theorem K_ci_init {G : Nat × (Nat → Int32)} {lay : Ly} {mm : Mm} {n : Nat}  (hn : lay.length = n) (hN : n ≤ 1000) (hz0 : mm n = z_) : Y G M_ci_init (n + 5, sl_ lay + (5 + (32 + 32 + 32 + 32))) 0 (en_ M_ci_init [.ref n]) [] (lay ++ [(0, 5, [none, none, none, none, none])], mm) (pK lay [(0, 5, [some (n + 1), some (n + 2), some (n + 3), some (n + 4), none]), (12, 32, []), (12, 32, []), (12, 32, []), (12, 32, [])] mm n [(ua_ (z_) 4 (nI 8)), (flr (z_) (32) NONE_), (flr (z_) (32) NONE_), (z_), (z_)]) := by
  subst hn
  change Y _ _ _ _ [some (.ref (lay.length + 0))] _ _ _
  refine Y_aload_n 0 rfl (pc2 := 1) rfl rfl ?_
  refine Y_objInit 1 rfl (pc2 := 4) rfl lk_ci_3 jd_oi jd_oc (by omega) (by decide) (Nat.le_of_ble_eq_true rfl) ?_
  refine Y_aload_n 2 rfl (pc2 := 5) rfl rfl ?_
  refine Y_bipush 3 rfl (pc2 := 7) rfl (v := nI 32) (by decide) ?_
  refine Y_znewa_i 4 rfl (pc2 := 9) rfl rfl (by omega) (zl := 1) rfl (by dsimp only; omega) (by simp only [sl_, List.map, List.sum_cons, List.sum_nil]; omega) (by omega) (Z2 := [(0, 5, [none, none, none, none, none]), (12, 32, [])]) rfl ?_
  refine Y_zputR 5 rfl (pc2 := 12) rfl fl_ci_9 rfl (by decide) (Nat.le_of_ble_eq_true rfl) (by omega) (Or.inr ⟨_, rfl⟩) ⟨_, _, _, rfl, rfl, rfl⟩ rfl rfl (Z2 := [(0, 5, [some (lay.length + 1), none, none, none, none]), (12, 32, [])]) rfl ?_
  refine Y_aload_n 6 rfl (pc2 := 13) rfl rfl ?_
  refine Y_bipush 7 rfl (pc2 := 15) rfl (v := nI 32) (by decide) ?_
  refine Y_znewa_i 8 rfl (pc2 := 17) rfl rfl (by omega) (zl := 2) rfl (by dsimp only; omega) (by simp only [sl_, List.map, List.sum_cons, List.sum_nil]; omega) (by omega) (Z2 := [(0, 5, [some (lay.length + 1), none, none, none, none]), (12, 32, []), (12, 32, [])]) rfl ?_
  refine Y_zputR 9 rfl (pc2 := 20) rfl fl_ci_15 rfl (by decide) (Nat.le_of_ble_eq_true rfl) (by omega) (Or.inr ⟨_, rfl⟩) ⟨_, _, _, rfl, rfl, rfl⟩ rfl rfl (Z2 := [(0, 5, [some (lay.length + 1), some (lay.length + 2), none, none, none]), (12, 32, []), (12, 32, [])]) rfl ?_
  refine Y_aload_n 10 rfl (pc2 := 21) rfl rfl ?_
  refine Y_bipush 11 rfl (pc2 := 23) rfl (v := nI 32) (by decide) ?_
  refine Y_znewa_i 12 rfl (pc2 := 25) rfl rfl (by omega) (zl := 3) rfl (by dsimp only; omega) (by simp only [sl_, List.map, List.sum_cons, List.sum_nil]; omega) (by omega) (Z2 := [(0, 5, [some (lay.length + 1), some (lay.length + 2), none, none, none]), (12, 32, []), (12, 32, []), (12, 32, [])]) rfl ?_
  refine Y_zputR 13 rfl (pc2 := 28) rfl fl_ci_18 rfl (by decide) (Nat.le_of_ble_eq_true rfl) (by omega) (Or.inr ⟨_, rfl⟩) ⟨_, _, _, rfl, rfl, rfl⟩ rfl rfl (Z2 := [(0, 5, [some (lay.length + 1), some (lay.length + 2), some (lay.length + 3), none, none]), (12, 32, []), (12, 32, []), (12, 32, [])]) rfl ?_
  refine Y_aload_n 14 rfl (pc2 := 29) rfl rfl ?_
  refine Y_bipush 15 rfl (pc2 := 31) rfl (v := nI 32) (by decide) ?_
  refine Y_znewa_i 16 rfl (pc2 := 33) rfl rfl (by omega) (zl := 4) rfl (by dsimp only; omega) (by simp only [sl_, List.map, List.sum_cons, List.sum_nil]; omega) (by omega) (Z2 := [(0, 5, [some (lay.length + 1), some (lay.length + 2), some (lay.length + 3), none, none]), (12, 32, []), (12, 32, []), (12, 32, []), (12, 32, [])]) rfl ?_
  refine Y_zputR 17 rfl (pc2 := 36) rfl fl_ci_21 rfl (by decide) (Nat.le_of_ble_eq_true rfl) (by omega) (Or.inr ⟨_, rfl⟩) ⟨_, _, _, rfl, rfl, rfl⟩ rfl rfl (Z2 := [(0, 5, [some (lay.length + 1), some (lay.length + 2), some (lay.length + 3), some (lay.length + 4), none]), (12, 32, []), (12, 32, []), (12, 32, []), (12, 32, [])]) rfl ?_
  refine Y_aload_n 18 rfl (pc2 := 37) rfl rfl ?_
  refine Y_bipush 19 rfl (pc2 := 39) rfl (v := nI 8) (by decide) ?_
  refine Y_putI 20 rfl (pc2 := 42) rfl fl_ci_24 (zz_get rfl) (by decide) ⟨rfl, rfl⟩ ⟨_, _, _, rfl, rfl⟩ rfl ?_
  refine Y_aload_n 21 rfl (pc2 := 43) rfl rfl ?_
  refine Y_getR 22 rfl (pc2 := 46) rfl fl_ci_9 (zz_get rfl) (by decide) rfl rfl (by omega) ?_
  refine Y_ldc 23 rfl (pc2 := 48) rfl kc_ci_28 ?_
  refine Y_cS 24 rfl (pc2 := 51) rfl ok_ar_filli lk_ci_29 vs_ar_filli (as := [.ref _, .int _]) (rest := []) rfl rfl (T_ar_filli (zz_get rfl) (by omega)) ?_
  rintro _ _ ⟨rfl, rfl⟩
  change Y _ _ _ _ _ [] _ _
  refine Y_aload_n 25 rfl (pc2 := 52) rfl rfl ?_
  refine Y_getR 26 rfl (pc2 := 55) rfl fl_ci_15 (zz_get rfl) (by decide) rfl rfl (by omega) ?_
  refine Y_ldc 27 rfl (pc2 := 57) rfl kc_ci_28 ?_
  refine Y_cS 28 rfl (pc2 := 60) rfl ok_ar_filli lk_ci_29 vs_ar_filli (as := [.ref _, .int _]) (rest := []) rfl rfl (T_ar_filli (zz_get rfl) (by omega)) ?_
  rintro _ _ ⟨rfl, rfl⟩
  change Y _ _ _ _ _ [] _ _
  refine Y_vret 29 rfl rfl ?_
  refine ⟨rfl, rfl, fun b hb => ?_, ?_, ?_, ?_, ?_, ?_, trivial⟩
  · dsimp only
    funext k
    simp [uw_, ur_, Nat.ne_of_lt hb, show ∀ j, ¬ b = lay.length + j from fun j => by omega]
  · dsimp only
    funext k
    simp [uw_, ur_, flr, ua_, z_, hz0, Nat.add_assoc, NONE_]
  · dsimp only
    funext k
    simp [uw_, ur_, flr, ua_, z_, hz0, Nat.add_assoc, NONE_]
  · dsimp only
    funext k
    simp [uw_, ur_, flr, ua_, z_, hz0, Nat.add_assoc, NONE_]
  · dsimp only
    funext k
    simp [uw_, ur_, flr, ua_, z_, hz0, Nat.add_assoc, NONE_]
  · dsimp only
    funext k
    simp [uw_, ur_, flr, ua_, z_, hz0, Nat.add_assoc, NONE_]

set_option maxHeartbeats 400000 in
theorem K_sh_init {G : Nat × (Nat → Int32)} {lay : Ly} {mm : Mm} {n : Nat}  (hn : lay.length = n) (hN : n ≤ 1000) (hz0 : mm n = z_) : Y G M_sh_init (n + 2, sl_ lay + (2 + (16))) 0 (en_ M_sh_init [.ref n]) [] (lay ++ [(5, 2, [none, none])], mm) (pK lay [(5, 2, [some (n + 1), none]), (11, 16, [])] mm n [(ua_ (z_) 1 (-1)), (z_)]) := by
  subst hn
  change Y _ _ _ _ [some (.ref (lay.length + 0))] _ _ _
  refine Y_aload_n 0 rfl (pc2 := 1) rfl rfl ?_
  refine Y_objInit 1 rfl (pc2 := 4) rfl lk_sh_3 jd_oi jd_oc (by omega) (by decide) (Nat.le_of_ble_eq_true rfl) ?_
  refine Y_aload_n 2 rfl (pc2 := 5) rfl rfl ?_
  refine Y_bipush 3 rfl (pc2 := 7) rfl (v := nI 16) (by decide) ?_
  refine Y_znewa_b 4 rfl (pc2 := 9) rfl rfl (by omega) (zl := 1) rfl (by dsimp only; omega) (by simp only [sl_, List.map, List.sum_cons, List.sum_nil]; omega) (by omega) (Z2 := [(5, 2, [none, none]), (11, 16, [])]) rfl ?_
  refine Y_zputR 5 rfl (pc2 := 12) rfl fl_sh_9 rfl (by decide) (Nat.le_of_ble_eq_true rfl) (by omega) (Or.inr ⟨_, rfl⟩) ⟨_, _, _, rfl, rfl, rfl⟩ rfl rfl (Z2 := [(5, 2, [some (lay.length + 1), none]), (11, 16, [])]) rfl ?_
  refine Y_aload_n 6 rfl (pc2 := 13) rfl rfl ?_
  refine Y_iconst 7 rfl (pc2 := 14) rfl (v := -1) (by decide) ?_
  refine Y_putI 8 rfl (pc2 := 17) rfl fl_sh_15 (zz_get rfl) (by decide) ⟨rfl, rfl⟩ ⟨_, _, _, rfl, rfl⟩ rfl ?_
  refine Y_vret 9 rfl rfl ?_
  refine ⟨rfl, rfl, fun b hb => ?_, ?_, ?_, trivial⟩
  · dsimp only
    funext k
    simp [uw_, ur_, Nat.ne_of_lt hb, show ∀ j, ¬ b = lay.length + j from fun j => by omega]
  · dsimp only
    funext k
    simp [uw_, ur_, flr, ua_, z_, hz0, Nat.add_assoc, NONE_]
  · dsimp only
    funext k
    simp [uw_, ur_, flr, ua_, z_, hz0, Nat.add_assoc, NONE_]

set_option maxHeartbeats 400000 in
theorem K_fi_init {G : Nat × (Nat → Int32)} {lay : Ly} {mm : Mm} {n : Nat} {n0 : Nat} (hn0 : n0 ≤ 16) (hn : lay.length = n) (hN : n ≤ 1000) (hz0 : mm n = z_) : Y G M_fi_init (n + 4, sl_ lay + (3 + (n0 + n0 + n0))) 0 (en_ M_fi_init [.ref n, .int (nI n0)]) [] (lay ++ [(1, 3, [none, none, none])], mm) (pK lay [(1, 3, [some (n + 1), some (n + 2), some (n + 3)]), (12, n0, []), (12, n0, []), (13, n0, [])] mm n [(z_), (flr (z_) (n0) NONE_), (flr (z_) (n0) NONE_), (z_)]) := by
  subst hn
  change Y _ _ _ _ [some (.ref (lay.length + 0)), some (.int _)] _ _ _
  refine Y_aload_n 0 rfl (pc2 := 1) rfl rfl ?_
  refine Y_objInit 1 rfl (pc2 := 4) rfl lk_fi_3 jd_oi jd_oc (by omega) (by decide) (Nat.le_of_ble_eq_true rfl) ?_
  refine Y_aload_n 2 rfl (pc2 := 5) rfl rfl ?_
  refine Y_iload_n 3 rfl (pc2 := 6) rfl rfl ?_
  refine Y_znewa_i 4 rfl (pc2 := 8) rfl rfl (by omega) (zl := 1) rfl (by dsimp only; omega) (by simp only [sl_, List.map, List.sum_cons, List.sum_nil]; omega) (by omega) (Z2 := [(1, 3, [none, none, none]), (12, n0, [])]) rfl ?_
  refine Y_zputR 5 rfl (pc2 := 11) rfl fl_fi_9 rfl (by decide) (Nat.le_of_ble_eq_true rfl) (by omega) (Or.inr ⟨_, rfl⟩) ⟨_, _, _, rfl, rfl, rfl⟩ rfl rfl (Z2 := [(1, 3, [some (lay.length + 1), none, none]), (12, n0, [])]) rfl ?_
  refine Y_aload_n 6 rfl (pc2 := 12) rfl rfl ?_
  refine Y_iload_n 7 rfl (pc2 := 13) rfl rfl ?_
  refine Y_znewa_i 8 rfl (pc2 := 15) rfl rfl (by omega) (zl := 2) rfl (by dsimp only; omega) (by simp only [sl_, List.map, List.sum_cons, List.sum_nil]; omega) (by omega) (Z2 := [(1, 3, [some (lay.length + 1), none, none]), (12, n0, []), (12, n0, [])]) rfl ?_
  refine Y_zputR 9 rfl (pc2 := 18) rfl fl_fi_15 rfl (by decide) (Nat.le_of_ble_eq_true rfl) (by omega) (Or.inr ⟨_, rfl⟩) ⟨_, _, _, rfl, rfl, rfl⟩ rfl rfl (Z2 := [(1, 3, [some (lay.length + 1), some (lay.length + 2), none]), (12, n0, []), (12, n0, [])]) rfl ?_
  refine Y_aload_n 10 rfl (pc2 := 19) rfl rfl ?_
  refine Y_iload_n 11 rfl (pc2 := 20) rfl rfl ?_
  refine Y_znewa_z 12 rfl (pc2 := 22) rfl rfl (by omega) (zl := 3) rfl (by dsimp only; omega) (by simp only [sl_, List.map, List.sum_cons, List.sum_nil]; omega) (by omega) (Z2 := [(1, 3, [some (lay.length + 1), some (lay.length + 2), none]), (12, n0, []), (12, n0, []), (13, n0, [])]) rfl ?_
  refine Y_zputR 13 rfl (pc2 := 25) rfl fl_fi_18 rfl (by decide) (Nat.le_of_ble_eq_true rfl) (by omega) (Or.inr ⟨_, rfl⟩) ⟨_, _, _, rfl, rfl, rfl⟩ rfl rfl (Z2 := [(1, 3, [some (lay.length + 1), some (lay.length + 2), some (lay.length + 3)]), (12, n0, []), (12, n0, []), (13, n0, [])]) rfl ?_
  refine Y_aload_n 14 rfl (pc2 := 26) rfl rfl ?_
  refine Y_getR 15 rfl (pc2 := 29) rfl fl_fi_9 (zz_get rfl) (by decide) rfl rfl (by omega) ?_
  refine Y_ldc 16 rfl (pc2 := 31) rfl kc_fi_22 ?_
  refine Y_cS 17 rfl (pc2 := 34) rfl ok_ar_filli lk_fi_23 vs_ar_filli (as := [.ref _, .int _]) (rest := []) rfl rfl (T_ar_filli (zz_get rfl) (by omega)) ?_
  rintro _ _ ⟨rfl, rfl⟩
  change Y _ _ _ _ _ [] _ _
  refine Y_aload_n 18 rfl (pc2 := 35) rfl rfl ?_
  refine Y_getR 19 rfl (pc2 := 38) rfl fl_fi_15 (zz_get rfl) (by decide) rfl rfl (by omega) ?_
  refine Y_ldc 20 rfl (pc2 := 40) rfl kc_fi_22 ?_
  refine Y_cS 21 rfl (pc2 := 43) rfl ok_ar_filli lk_fi_23 vs_ar_filli (as := [.ref _, .int _]) (rest := []) rfl rfl (T_ar_filli (zz_get rfl) (by omega)) ?_
  rintro _ _ ⟨rfl, rfl⟩
  change Y _ _ _ _ _ [] _ _
  refine Y_vret 22 rfl rfl ?_
  refine ⟨rfl, rfl, fun b hb => ?_, ?_, ?_, ?_, ?_, trivial⟩
  · dsimp only
    funext k
    simp [uw_, ur_, Nat.ne_of_lt hb, show ∀ j, ¬ b = lay.length + j from fun j => by omega]
  · dsimp only
    funext k
    simp [uw_, ur_, flr, ua_, z_, hz0, Nat.add_assoc, NONE_]
  · dsimp only
    funext k
    simp [uw_, ur_, flr, ua_, z_, hz0, Nat.add_assoc, NONE_]
  · dsimp only
    funext k
    simp [uw_, ur_, flr, ua_, z_, hz0, Nat.add_assoc, NONE_]
  · dsimp only
    funext k
    simp [uw_, ur_, flr, ua_, z_, hz0, Nat.add_assoc, NONE_]
