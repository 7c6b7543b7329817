/-! TOOLS for the walks through the methods -/
set_option maxHeartbeats 400000 in
theorem nI_inc (t c : Nat) : nI t + Int32.ofInt (c : Int) = nI (t + c) := by
  rw [← nI_add]; congr 1
set_option maxHeartbeats 400000 in
theorem nI_dec {t : Nat} (h : 1 ≤ t) : nI t + Int32.ofInt (-1) = nI (t - 1) := by
  have h1 : nI t = nI (t - 1) + nI 1 := by rw [nI_add]; congr 1; omega
  rw [h1, Int32.add_assoc]
  have h2 : nI 1 + Int32.ofInt (-1) = 0 := by decide
  rw [h2, Int32.add_zero]
set_option maxHeartbeats 400000 in
theorem nI_m1 (k : Nat) : nI k + Int32.ofInt (-1) = nI k - nI 1 := by
  rw [Int32.sub_eq_add_neg]
  have : Int32.ofInt (-1) = -nI 1 := by decide
  rw [this]
set_option maxHeartbeats 400000 in
theorem nI_div {a b : Nat} (ha : a < 2 ^ 31) (hb : b < 2 ^ 31) : nI a / nI b = nI (a / b) := by
  have hd : a / b < 2 ^ 31 := Nat.lt_of_le_of_lt (Nat.div_le_self a b) ha
  apply Int32.toInt_inj.mp
  rw [Int32.toInt_div, nI_toInt ha, nI_toInt hb, nI_toInt hd]
  rw [Int.tdiv_eq_ediv_of_nonneg (by omega), ← Int.natCast_ediv]
  generalize a / b = q at hd
  rw [Int.bmod_eq_of_le] <;> omega
set_option maxHeartbeats 400000 in
theorem nI_rem {a b : Nat} (ha : a < 2 ^ 31) (hb : b < 2 ^ 31) : nI a - nI a / nI b * nI b = nI (a % b) := by
  rw [nI_div ha hb, nI_mul, nI_sub (Nat.div_mul_le_self a b)]
  congr 1
  have := Nat.mod_add_div a b
  have h2 : a / b * b = b * (a / b) := Nat.mul_comm _ _
  omega
set_option maxHeartbeats 400000 in
theorem sz_lt {l : Nat} (h : l < 4) : 2 ^ (l + 1) < 2 ^ 31 := Nat.pow_lt_pow_right (by omega) (by omega)
set_option maxHeartbeats 400000 in
theorem ly_fiR {l f h : Nat} (hl : l < 4) (hf : f < 6) (hh : h < 2) : LAY[45 + 27 * l + 4 * f + h]? = some (12, 2 ^ (l + 1), []) := by
  have h2 : h = 0 ∨ h = 1 := by omega
  rcases h2 with rfl | rfl
  · exact ly_fiM hl hf
  · have e : 45 + 27 * l + 4 * f + 1 = 46 + 27 * l + 4 * f := by omega
    rw [e]
    exact ly_fiO hl hf
def pu_ (x : Int32) (m : Mm) : Option Value → Mm → Prop := fun v m' => v = some (.int x) ∧ m = m'
def pa_ (a : Nat) (m : Mm) : Option Value → Mm → Prop := fun v m' => v = some (.ref a) ∧ m = m'
def pv_ (m : Mm) : Option Value → Mm → Prop := fun v m' => v = none ∧ m = m'
set_option maxHeartbeats 400000 in
theorem pu_i {x y : Int32} {m : Mm} (h : y = x) : pu_ x m (some (.int y)) m := ⟨by rw [h], rfl⟩
set_option maxHeartbeats 400000 in
theorem pu_t {p : Prop} {m : Mm} (h : p) : pu_ (bI p) m (some (.int (nI 1))) m := ⟨by rw [bI_t h]; rfl, rfl⟩
set_option maxHeartbeats 400000 in
theorem pu_f {p : Prop} {m : Mm} (h : ¬ p) : pu_ (bI p) m (some (.int (nI 0))) m := ⟨by rw [bI_f h]; rfl, rfl⟩
set_option maxHeartbeats 400000 in
theorem bI_c {p q : Prop} (h : p ↔ q) : bI p = bI q := by rw [propext h]
def ck_ (M M2 : Mi) (as rest : List Value) (u : Nat) : Bool := Nat.ble (rest.map fun v => v.category).sum 8 && (Nat.ble (m_f M2 + 1) (m_f M) && (Nat.ble (8 + (m_l M2 + 11) + m_w M2) (m_w M) && (as.all (fun v => Nat.beq v.category 1) && Nat.ble (as.length + u) (m_l M2))))
set_option maxHeartbeats 400000 in
theorem ck_u {M M2 : Mi} {as rest : List Value} {u : Nat} (h : ck_ M M2 as rest u = true) : (rest.map fun v => v.category).sum ≤ 8 ∧ (m_f M2 + 1 ≤ m_f M ∧ 8 + (m_l M2 + 11) + m_w M2 ≤ m_w M) ∧ (∀ v ∈ as, v.category = 1) ∧ as.length + u ≤ m_l M2 := by
  unfold ck_ at h
  simp only [Bool.and_eq_true, List.all_eq_true] at h
  obtain ⟨h1, h2, h3, h4, h5⟩ := h
  exact ⟨Nat.le_of_ble_eq_true h1, ⟨Nat.le_of_ble_eq_true h2, Nat.le_of_ble_eq_true h3⟩, fun v hv => Nat.eq_of_beq_eq_true (h4 v hv), Nat.le_of_ble_eq_true h5⟩
def iRz (x : Int32) (n : Nat) : Prop := 0 ≤ x ∧ x < nI n
set_option maxHeartbeats 400000 in
theorem iR_of {x : Int32} {n : Nat} (hn : n < 2 ^ 31) (h1 : ¬ x < 0) (h2 : ¬ nI n ≤ x) : iR x n := by
  obtain ⟨j, hj, rfl⟩ := nI_of h1
  refine ⟨j, ?_, rfl⟩
  have := mt (nI_leI hn hj).mpr h2
  omega
set_option maxHeartbeats 400000 in
theorem iR_ge {x : Int32} {n : Nat} (hn : n < 2 ^ 31) (h : iR x n) : ¬ x < 0 ∧ ¬ nI n ≤ x := by
  obtain ⟨k, hk, rfl⟩ := h
  exact ⟨nI_pos (by omega), fun e => by have := (nI_leI hn (by omega)).mp e; omega⟩
set_option maxHeartbeats 400000 in
theorem nI_iR {k n : Nat} (hk : k < 2 ^ 31) (hn : n < 2 ^ 31) : iR (nI k) n ↔ k < n := by
  constructor
  · rintro ⟨j, hj, e⟩
    have := (nI_eq hk (by omega)).mp e
    omega
  · intro h
    exact ⟨k, h, rfl⟩
set_option maxHeartbeats 400000 in
theorem uw_same {m : Mm} {a k : Nat} {v : Int32} : uw_ m a k v a k = v := by simp [uw_]
set_option maxHeartbeats 400000 in
theorem uw_ne {m : Mm} {a k b j : Nat} {v : Int32} (h : ¬ (b = a ∧ j = k)) : uw_ m a k v b j = m b j := by simp [uw_, h]
section Y9
variable {G : Nat × (Nat → Int32)} {M : Mi} {cap : Nat × Nat} {pc pc2 : Nat} {ls ls2 : List (Option Value)} {st : List Value} {σ : Sg} {lay : Ly} {mm : Mm} {Q : Option Value → Sg → Prop}
set_option maxHeartbeats 400000 in
theorem Y_cS {index : Nat} {M2 : Mi} {as rest : List Value} {P : Option Value → Mm → Prop} (i : Nat) (h : (m_t M)[i]? = some (pc, .invokestatic index, 3)) (hp : pc + 3 = pc2) (hM : Mok M2) (hl : lk_ (m_y M).cls index (m_y M2)) (hv : vs_ M2 as.length) (hst : st = as.reverse ++ rest) (hk : ck_ M M2 as rest 0 = true) (hY : Y G M2 (0, 0) 0 (en_ M2 as) [] (lay, mm) (qm_ lay P)) (k : ∀ (v : Option Value) (m2 : Mm), P v m2 → Y G M cap pc2 ls (v.toList ++ rest) (lay, m2) Q) : Y G M cap pc ls st (lay, mm) Q :=
  have hu := ck_u hk
  Y_callS i h hp hM hl hv hst hu.1 hu.2.1 hu.2.2.1 hu.2.2.2 hY k
set_option maxHeartbeats 400000 in
theorem Y_cV {index ci a n : Nat} {rs : List (Option Nat)} {qq : vw_C} {M2 : Mi} {as rest : List Value} {P : Option Value → Mm → Prop} (i : Nat) (h : (m_t M)[i]? = some (pc, .invokevirtual index, 3)) (hp : pc + 3 = pc2) (hM : Mok M2) (hl : lk_ (m_y M).cls index (m_y M2)) (hv : vi_ M2 as.length) (ha : lay[a]? = some (ci, n, rs)) (hci : vwCl[ci]? = some qq) (hc11 : ci < 11) (hqq : qq.1 = (m_y M2).cls) (hst : st = as.reverse ++ .ref a :: rest) (hk : ck_ M M2 as rest 1 = true) (hY : Y G M2 (0, 0) 0 (en_ M2 (.ref a :: as)) [] (lay, mm) (qm_ lay P)) (k : ∀ (v : Option Value) (m2 : Mm), P v m2 → Y G M cap pc2 ls (v.toList ++ rest) (lay, m2) Q) : Y G M cap pc ls st (lay, mm) Q :=
  have hu := ck_u hk
  Y_callV i h hp hM hl hv ha hci hc11 hqq hst hu.1 hu.2.1 hu.2.2.1 hu.2.2.2 hY k
set_option maxHeartbeats 400000 in
theorem Y_if_eqn {off : Int} {t tgt : Nat} (i : Nat) (h : (m_t M)[i]? = some (pc, .ifCond .eq off, 3)) (hp : pc + 3 = pc2) (ht : (pc : Int) + off = (tgt : Int)) (hx : t < 2 ^ 31) (kt : t = 0 → Y G M cap tgt ls st σ Q) (kf : ¬ t = 0 → Y G M cap pc2 ls st σ Q) : Y G M cap pc ls (.int (nI t) :: st) σ Q :=
  Y_if_eq i h hp ht (fun hh => kt ((nI_eq hx (by decide : (0 : Nat) < 2 ^ 31)).mp (hh.trans nI_0.symm))) (fun hh => kf (fun e => hh (by rw [e]; exact nI_0)))
set_option maxHeartbeats 400000 in
theorem Y_if_nen {off : Int} {t tgt : Nat} (i : Nat) (h : (m_t M)[i]? = some (pc, .ifCond .ne off, 3)) (hp : pc + 3 = pc2) (ht : (pc : Int) + off = (tgt : Int)) (hx : t < 2 ^ 31) (kt : ¬ t = 0 → Y G M cap tgt ls st σ Q) (kf : t = 0 → Y G M cap pc2 ls st σ Q) : Y G M cap pc ls (.int (nI t) :: st) σ Q :=
  Y_if_ne i h hp ht (fun hh => kt (fun e => hh (by rw [e]; exact nI_0))) (fun hh => kf ((nI_eq hx (by decide : (0 : Nat) < 2 ^ 31)).mp (hh.trans nI_0.symm)))
set_option maxHeartbeats 400000 in
theorem Y_if_ltn {off : Int} {t tgt : Nat} (i : Nat) (h : (m_t M)[i]? = some (pc, .ifCond .lt off, 3)) (hp : pc + 3 = pc2) (ht : (pc : Int) + off = (tgt : Int)) (hx : t < 2 ^ 31) (kf : Y G M cap pc2 ls st σ Q) : Y G M cap pc ls (.int (nI t) :: st) σ Q :=
  Y_if_lt i h hp ht (fun hh => absurd hh (nI_pos hx)) (fun _ => kf)
set_option maxHeartbeats 400000 in
theorem Y_if_gen {off : Int} {t tgt : Nat} (i : Nat) (h : (m_t M)[i]? = some (pc, .ifCond .ge off, 3)) (hp : pc + 3 = pc2) (ht : (pc : Int) + off = (tgt : Int)) (hx : t < 2 ^ 31) (kt : Y G M cap tgt ls st σ Q) : Y G M cap pc ls (.int (nI t) :: st) σ Q :=
  Y_if_ge i h hp ht (fun _ => kt) (fun hh => absurd (nI_pos' hx) hh)
set_option maxHeartbeats 400000 in
theorem Y_if_gtn {off : Int} {t tgt : Nat} (i : Nat) (h : (m_t M)[i]? = some (pc, .ifCond .gt off, 3)) (hp : pc + 3 = pc2) (ht : (pc : Int) + off = (tgt : Int)) (hx : t < 2 ^ 31) (kt : 0 < t → Y G M cap tgt ls st σ Q) (kf : ¬ 0 < t → Y G M cap pc2 ls st σ Q) : Y G M cap pc ls (.int (nI t) :: st) σ Q :=
  Y_if_gt i h hp ht (fun hh => kt ((nI_ltI (by decide : (0 : Nat) < 2 ^ 31) hx).mp (by rw [nI_0]; exact hh))) (fun hh => kf (fun e => hh (by have := (nI_ltI (by decide : (0 : Nat) < 2 ^ 31) hx).mpr e; rw [nI_0] at this; exact this)))
set_option maxHeartbeats 400000 in
theorem Y_if_len {off : Int} {t tgt : Nat} (i : Nat) (h : (m_t M)[i]? = some (pc, .ifCond .le off, 3)) (hp : pc + 3 = pc2) (ht : (pc : Int) + off = (tgt : Int)) (hx : t < 2 ^ 31) (kt : t = 0 → Y G M cap tgt ls st σ Q) (kf : ¬ t = 0 → Y G M cap pc2 ls st σ Q) : Y G M cap pc ls (.int (nI t) :: st) σ Q :=
  Y_if_le i h hp ht (fun hh => kt (by have := (nI_leI hx (by decide : (0 : Nat) < 2 ^ 31)).mp (by rw [nI_0]; exact hh); omega)) (fun hh => kf (fun e => hh (by rw [e, nI_0]; decide)))
set_option maxHeartbeats 400000 in
theorem Y_tsw {dflt hi : Int} {n tgt : Nat} {offs : Array Int} {len : Nat} {x : Int32} (i : Nat) (h : (m_t M)[i]? = some (pc, .tableswitch dflt 0 hi offs, len)) (hn : hi + 1 = (n : Int)) (hn2 : n < 1000) (hs : n = offs.size) (hnn : ∀ j, j < n → 0 ≤ (pc : Int) + offs.getD j 0) (ht : (pc : Int) + dflt = (tgt : Int)) (ko : ¬ iR x n → Y G M cap tgt ls st σ Q) (k : ∀ j, j < n → x = nI j → Y G M cap ((pc : Int) + offs.getD j 0).toNat ls st σ Q) : Y G M cap pc ls (.int x :: st) σ Q := by
  by_cases hx : iR x n
  · obtain ⟨j, hj, rfl⟩ := hx
    have e : (nI j).toInt = (j : Int) := nI_toInt (by omega)
    refine Y_tableIn i h (by rw [e]; omega) (by rw [e]; omega) (off := offs.getD j 0) ?_ ?_ (k j hj rfl)
    · rw [e]
      have : ((j : Int) - 0).toNat = j := by omega
      rw [this, Array.getD_eq_getD_getElem?, Array.getElem?_eq_getElem (by omega)]
      rfl
    · have := hnn j hj
      omega
  · refine Y_tableOut i h ?_ ht (ko hx)
    by_cases h0 : x.toInt < 0
    · exact Or.inl h0
    · right
      have h1 : ¬ x < 0 := fun e => h0 (by have := Int32.lt_iff_toInt_lt.mp e; simpa using this)
      obtain ⟨j, hj, rfl⟩ := nI_of h1
      have e : (nI j).toInt = (j : Int) := nI_toInt hj
      rw [e]
      have : ¬ j < n := fun hh => hx ⟨j, hh, rfl⟩
      omega
end Y9
