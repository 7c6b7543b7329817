/-! the layout behind the constructors -/
def LAY : Ly := [(9, 8, [some 1, some 3, some 6, some 7, some 8, some 13, some 14, some 20]), (6, 2, [some 2, none]), (11, 64, []), (7, 6, [some 4, some 5, none, none, none, none]), (12, 32, []), (12, 32, []), (14, 4, [some 21, some 26, some 31, some 36]), (16, 4, [some 41, some 68, some 95, some 122]), (4, 6, [some 9, some 10, some 11, some 12, none, none]), (12, 16, []), (12, 16, []), (12, 16, []), (12, 144, []), (8, 4, [none, none, none, none]), (3, 5, [some 15, some 16, some 17, some 18, some 19]), (12, 42, []), (12, 42, []), (12, 42, []), (12, 3, []), (13, 6, []), (17, 2, [some 149, some 151]), (0, 5, [some 22, some 23, some 24, some 25, none]), (12, 32, []), (12, 32, []), (12, 32, []), (12, 32, []), (0, 5, [some 27, some 28, some 29, some 30, none]), (12, 32, []), (12, 32, []), (12, 32, []), (12, 32, []), (0, 5, [some 32, some 33, some 34, some 35, none]), (12, 32, []), (12, 32, []), (12, 32, []), (12, 32, []), (0, 5, [some 37, some 38, some 39, some 40, none]), (12, 32, []), (12, 32, []), (12, 32, []), (12, 32, []), (2, 3, [none, some 42, some 43]), (15, 6, [some 44, some 48, some 52, some 56, some 60, some 64]), (12, 3, []), (1, 3, [some 45, some 46, some 47]), (12, 2, []), (12, 2, []), (13, 2, []), (1, 3, [some 49, some 50, some 51]), (12, 2, []), (12, 2, []), (13, 2, []), (1, 3, [some 53, some 54, some 55]), (12, 2, []), (12, 2, []), (13, 2, []), (1, 3, [some 57, some 58, some 59]), (12, 2, []), (12, 2, []), (13, 2, []), (1, 3, [some 61, some 62, some 63]), (12, 2, []), (12, 2, []), (13, 2, []), (1, 3, [some 65, some 66, some 67]), (12, 2, []), (12, 2, []), (13, 2, []), (2, 3, [none, some 69, some 70]), (15, 6, [some 71, some 75, some 79, some 83, some 87, some 91]), (12, 3, []), (1, 3, [some 72, some 73, some 74]), (12, 4, []), (12, 4, []), (13, 4, []), (1, 3, [some 76, some 77, some 78]), (12, 4, []), (12, 4, []), (13, 4, []), (1, 3, [some 80, some 81, some 82]), (12, 4, []), (12, 4, []), (13, 4, []), (1, 3, [some 84, some 85, some 86]), (12, 4, []), (12, 4, []), (13, 4, []), (1, 3, [some 88, some 89, some 90]), (12, 4, []), (12, 4, []), (13, 4, []), (1, 3, [some 92, some 93, some 94]), (12, 4, []), (12, 4, []), (13, 4, []), (2, 3, [none, some 96, some 97]), (15, 6, [some 98, some 102, some 106, some 110, some 114, some 118]), (12, 3, []), (1, 3, [some 99, some 100, some 101]), (12, 8, []), (12, 8, []), (13, 8, []), (1, 3, [some 103, some 104, some 105]), (12, 8, []), (12, 8, []), (13, 8, []), (1, 3, [some 107, some 108, some 109]), (12, 8, []), (12, 8, []), (13, 8, []), (1, 3, [some 111, some 112, some 113]), (12, 8, []), (12, 8, []), (13, 8, []), (1, 3, [some 115, some 116, some 117]), (12, 8, []), (12, 8, []), (13, 8, []), (1, 3, [some 119, some 120, some 121]), (12, 8, []), (12, 8, []), (13, 8, []), (2, 3, [none, some 123, some 124]), (15, 6, [some 125, some 129, some 133, some 137, some 141, some 145]), (12, 3, []), (1, 3, [some 126, some 127, some 128]), (12, 16, []), (12, 16, []), (13, 16, []), (1, 3, [some 130, some 131, some 132]), (12, 16, []), (12, 16, []), (13, 16, []), (1, 3, [some 134, some 135, some 136]), (12, 16, []), (12, 16, []), (13, 16, []), (1, 3, [some 138, some 139, some 140]), (12, 16, []), (12, 16, []), (13, 16, []), (1, 3, [some 142, some 143, some 144]), (12, 16, []), (12, 16, []), (13, 16, []), (1, 3, [some 146, some 147, some 148]), (12, 16, []), (12, 16, []), (13, 16, []), (5, 2, [some 150, none]), (11, 16, []), (5, 2, [some 152, none]), (11, 16, []), (10, 24, [some 154, some 155, some 156, some 157, some 158, some 159, none, some 160, some 161, some 162, some 163, some 164, none, some 165, some 166, none, none, some 167, some 168, none, none, none, some 169, some 170]), (12, 4, []), (12, 128, []), (12, 128, []), (12, 768, []), (13, 384, []), (12, 12, []), (12, 16, []), (12, 16, []), (12, 16, []), (12, 144, []), (12, 64, []), (12, 2, []), (12, 32, []), (12, 32, []), (12, 32, []), (12, 3, []), (12, 16, [])]
set_option maxHeartbeats 400000 in
theorem ly_gh : LAY[0]? = some (9, 8, [some 1, some 3, some 6, some 7, some 8, some 13, some 14, some 20]) := rfl
set_option maxHeartbeats 400000 in
theorem ly_ta : LAY[1]? = some (6, 2, [some 2, none]) := rfl
set_option maxHeartbeats 400000 in
theorem ly_taB : LAY[2]? = some (11, 64, []) := rfl
set_option maxHeartbeats 400000 in
theorem ly_re : LAY[3]? = some (7, 6, [some 4, some 5, none, none, none, none]) := rfl
set_option maxHeartbeats 400000 in
theorem ly_reN : LAY[4]? = some (12, 32, []) := rfl
set_option maxHeartbeats 400000 in
theorem ly_reG : LAY[5]? = some (12, 32, []) := rfl
set_option maxHeartbeats 400000 in
theorem ly_ghC : LAY[6]? = some (14, 4, [some 21, some 26, some 31, some 36]) := rfl
set_option maxHeartbeats 400000 in
theorem ly_ghL : LAY[7]? = some (16, 4, [some 41, some 68, some 95, some 122]) := rfl
set_option maxHeartbeats 400000 in
theorem ly_pi : LAY[8]? = some (4, 6, [some 9, some 10, some 11, some 12, none, none]) := rfl
set_option maxHeartbeats 400000 in
theorem ly_piC : LAY[9]? = some (12, 16, []) := rfl
set_option maxHeartbeats 400000 in
theorem ly_piT : LAY[10]? = some (12, 16, []) := rfl
set_option maxHeartbeats 400000 in
theorem ly_piL : LAY[11]? = some (12, 16, []) := rfl
set_option maxHeartbeats 400000 in
theorem ly_piS : LAY[12]? = some (12, 144, []) := rfl
set_option maxHeartbeats 400000 in
theorem ly_wa : LAY[13]? = some (8, 4, [none, none, none, none]) := rfl
set_option maxHeartbeats 400000 in
theorem ly_li : LAY[14]? = some (3, 5, [some 15, some 16, some 17, some 18, some 19]) := rfl
set_option maxHeartbeats 400000 in
theorem ly_liI : LAY[15]? = some (12, 42, []) := rfl
set_option maxHeartbeats 400000 in
theorem ly_liF : LAY[16]? = some (12, 42, []) := rfl
set_option maxHeartbeats 400000 in
theorem ly_liL : LAY[17]? = some (12, 42, []) := rfl
set_option maxHeartbeats 400000 in
theorem ly_liC : LAY[18]? = some (12, 3, []) := rfl
set_option maxHeartbeats 400000 in
theorem ly_liU : LAY[19]? = some (13, 6, []) := rfl
set_option maxHeartbeats 400000 in
theorem ly_ghS : LAY[20]? = some (17, 2, [some 149, some 151]) := rfl
set_option maxHeartbeats 400000 in
theorem ly_mo : LAY[153]? = some (10, 24, [some 154, some 155, some 156, some 157, some 158, some 159, none, some 160, some 161, some 162, some 163, some 164, none, some 165, some 166, none, none, some 167, some 168, none, none, none, some 169, some 170]) := rfl
set_option maxHeartbeats 400000 in
theorem ly_mo_beats : LAY[154]? = some (12, 4, []) := rfl
set_option maxHeartbeats 400000 in
theorem ly_mo_notes : LAY[155]? = some (12, 128, []) := rfl
set_option maxHeartbeats 400000 in
theorem ly_mo_gongs : LAY[156]? = some (12, 128, []) := rfl
set_option maxHeartbeats 400000 in
theorem ly_mo_shifts : LAY[157]? = some (12, 768, []) := rfl
set_option maxHeartbeats 400000 in
theorem ly_mo_may : LAY[158]? = some (13, 384, []) := rfl
set_option maxHeartbeats 400000 in
theorem ly_mo_used : LAY[159]? = some (12, 12, []) := rfl
set_option maxHeartbeats 400000 in
theorem ly_mo_pCircle : LAY[160]? = some (12, 16, []) := rfl
set_option maxHeartbeats 400000 in
theorem ly_mo_pTimes : LAY[161]? = some (12, 16, []) := rfl
set_option maxHeartbeats 400000 in
theorem ly_mo_pLevel : LAY[162]? = some (12, 16, []) := rfl
set_option maxHeartbeats 400000 in
theorem ly_mo_signals : LAY[163]? = some (12, 144, []) := rfl
set_option maxHeartbeats 400000 in
theorem ly_mo_tape : LAY[164]? = some (12, 64, []) := rfl
set_option maxHeartbeats 400000 in
theorem ly_mo_places : LAY[165]? = some (12, 2, []) := rfl
set_option maxHeartbeats 400000 in
theorem ly_mo_numbers : LAY[166]? = some (12, 32, []) := rfl
set_option maxHeartbeats 400000 in
theorem ly_mo_newNotes : LAY[167]? = some (12, 32, []) := rfl
set_option maxHeartbeats 400000 in
theorem ly_mo_newGongs : LAY[168]? = some (12, 32, []) := rfl
set_option maxHeartbeats 400000 in
theorem ly_mo_three : LAY[169]? = some (12, 3, []) := rfl
set_option maxHeartbeats 400000 in
theorem ly_mo_carried : LAY[170]? = some (12, 16, []) := rfl
set_option maxHeartbeats 400000 in
theorem ly_ci {c : Nat} (h : c < 4) : LAY[21 + 5 * c]? = some (0, 5, [some (22 + 5 * c), some (23 + 5 * c), some (24 + 5 * c), some (25 + 5 * c), none]) := by
  have : c = 0 ∨ c = 1 ∨ c = 2 ∨ c = 3 := by omega
  rcases this with rfl | rfl | rfl | rfl <;> rfl
set_option maxHeartbeats 400000 in
theorem ly_ciN {c : Nat} (h : c < 4) : LAY[22 + 5 * c]? = some (12, 32, []) := by
  have : c = 0 ∨ c = 1 ∨ c = 2 ∨ c = 3 := by omega
  rcases this with rfl | rfl | rfl | rfl <;> rfl
set_option maxHeartbeats 400000 in
theorem ly_ciG {c : Nat} (h : c < 4) : LAY[23 + 5 * c]? = some (12, 32, []) := by
  have : c = 0 ∨ c = 1 ∨ c = 2 ∨ c = 3 := by omega
  rcases this with rfl | rfl | rfl | rfl <;> rfl
set_option maxHeartbeats 400000 in
theorem ly_ciT {c : Nat} (h : c < 4) : LAY[24 + 5 * c]? = some (12, 32, []) := by
  have : c = 0 ∨ c = 1 ∨ c = 2 ∨ c = 3 := by omega
  rcases this with rfl | rfl | rfl | rfl <;> rfl
set_option maxHeartbeats 400000 in
theorem ly_ciU {c : Nat} (h : c < 4) : LAY[25 + 5 * c]? = some (12, 32, []) := by
  have : c = 0 ∨ c = 1 ∨ c = 2 ∨ c = 3 := by omega
  rcases this with rfl | rfl | rfl | rfl <;> rfl
set_option maxHeartbeats 400000 in
theorem ly_le {l : Nat} (h : l < 4) : LAY[41 + 27 * l]? = some (2, 3, [none, some (42 + 27 * l), some (43 + 27 * l)]) := by
  have : l = 0 ∨ l = 1 ∨ l = 2 ∨ l = 3 := by omega
  rcases this with rfl | rfl | rfl | rfl <;> rfl
set_option maxHeartbeats 400000 in
theorem ly_leF {l : Nat} (h : l < 4) : LAY[42 + 27 * l]? = some (15, 6, [some (44 + 27 * l), some (48 + 27 * l), some (52 + 27 * l), some (56 + 27 * l), some (60 + 27 * l), some (64 + 27 * l)]) := by
  have : l = 0 ∨ l = 1 ∨ l = 2 ∨ l = 3 := by omega
  rcases this with rfl | rfl | rfl | rfl <;> rfl
set_option maxHeartbeats 400000 in
theorem ly_leF_at {l f : Nat} (hf : f < 6) : [some (44 + 27 * l), some (48 + 27 * l), some (52 + 27 * l), some (56 + 27 * l), some (60 + 27 * l), some (64 + 27 * l)].getD f none = some (44 + 27 * l + 4 * f) := by
  have : f = 0 ∨ f = 1 ∨ f = 2 ∨ f = 3 ∨ f = 4 ∨ f = 5 := by omega
  rcases this with rfl | rfl | rfl | rfl | rfl | rfl <;> simp <;> omega
set_option maxHeartbeats 400000 in
theorem ly_leU {l : Nat} (h : l < 4) : LAY[43 + 27 * l]? = some (12, 3, []) := by
  have : l = 0 ∨ l = 1 ∨ l = 2 ∨ l = 3 := by omega
  rcases this with rfl | rfl | rfl | rfl <;> rfl
set_option maxHeartbeats 400000 in
theorem ly_fi {l f : Nat} (h : l < 4) (hf : f < 6) : LAY[44 + 27 * l + 4 * f]? = some (1, 3, [some (45 + 27 * l + 4 * f), some (46 + 27 * l + 4 * f), some (47 + 27 * l + 4 * f)]) := by
  have h1 : l = 0 ∨ l = 1 ∨ l = 2 ∨ l = 3 := by omega
  have h2 : f = 0 ∨ f = 1 ∨ f = 2 ∨ f = 3 ∨ f = 4 ∨ f = 5 := by omega
  rcases h1 with rfl | rfl | rfl | rfl <;> rcases h2 with rfl | rfl | rfl | rfl | rfl | rfl <;> rfl
set_option maxHeartbeats 400000 in
theorem ly_fiM {l f : Nat} (h : l < 4) (hf : f < 6) : LAY[45 + 27 * l + 4 * f]? = some (12, 2 ^ (l + 1), []) := by
  have h1 : l = 0 ∨ l = 1 ∨ l = 2 ∨ l = 3 := by omega
  have h2 : f = 0 ∨ f = 1 ∨ f = 2 ∨ f = 3 ∨ f = 4 ∨ f = 5 := by omega
  rcases h1 with rfl | rfl | rfl | rfl <;> rcases h2 with rfl | rfl | rfl | rfl | rfl | rfl <;> rfl
set_option maxHeartbeats 400000 in
theorem ly_fiO {l f : Nat} (h : l < 4) (hf : f < 6) : LAY[46 + 27 * l + 4 * f]? = some (12, 2 ^ (l + 1), []) := by
  have h1 : l = 0 ∨ l = 1 ∨ l = 2 ∨ l = 3 := by omega
  have h2 : f = 0 ∨ f = 1 ∨ f = 2 ∨ f = 3 ∨ f = 4 ∨ f = 5 := by omega
  rcases h1 with rfl | rfl | rfl | rfl <;> rcases h2 with rfl | rfl | rfl | rfl | rfl | rfl <;> rfl
set_option maxHeartbeats 400000 in
theorem ly_fiB {l f : Nat} (h : l < 4) (hf : f < 6) : LAY[47 + 27 * l + 4 * f]? = some (13, 2 ^ (l + 1), []) := by
  have h1 : l = 0 ∨ l = 1 ∨ l = 2 ∨ l = 3 := by omega
  have h2 : f = 0 ∨ f = 1 ∨ f = 2 ∨ f = 3 ∨ f = 4 ∨ f = 5 := by omega
  rcases h1 with rfl | rfl | rfl | rfl <;> rcases h2 with rfl | rfl | rfl | rfl | rfl | rfl <;> rfl
set_option maxHeartbeats 400000 in
theorem ly_sh {s : Nat} (h : s < 2) : LAY[149 + 2 * s]? = some (5, 2, [some (150 + 2 * s), none]) := by
  have : s = 0 ∨ s = 1 := by omega
  rcases this with rfl | rfl <;> rfl
set_option maxHeartbeats 400000 in
theorem ly_shB {s : Nat} (h : s < 2) : LAY[150 + 2 * s]? = some (11, 16, []) := by
  have : s = 0 ∨ s = 1 := by omega
  rcases this with rfl | rfl <;> rfl
set_option maxHeartbeats 400000 in
theorem ly_ghC_at {c : Nat} (h : c < 4) : [some 21, some 26, some 31, some 36].getD c none = some (21 + 5 * c) := by
  have : c = 0 ∨ c = 1 ∨ c = 2 ∨ c = 3 := by omega
  rcases this with rfl | rfl | rfl | rfl <;> rfl
set_option maxHeartbeats 400000 in
theorem ly_ghL_at {l : Nat} (h : l < 4) : [some 41, some 68, some 95, some 122].getD l none = some (41 + 27 * l) := by
  have : l = 0 ∨ l = 1 ∨ l = 2 ∨ l = 3 := by omega
  rcases this with rfl | rfl | rfl | rfl <;> rfl
set_option maxHeartbeats 400000 in
theorem ly_ghS_at {s : Nat} (h : s < 2) : [some 149, some 151].getD s none = some (149 + 2 * s) := by
  have : s = 0 ∨ s = 1 := by omega
  rcases this with rfl | rfl <;> rfl
/-! plain facts -/
set_option maxHeartbeats 400000 in
theorem nI_mul (a b : Nat) : nI a * nI b = nI (a * b) := by
  unfold nI
  exact (Int32.ofNat_mul a b).symm
set_option maxHeartbeats 400000 in
theorem nI_sub {a b : Nat} (h : b ≤ a) : nI a - nI b = nI (a - b) := by
  have h1 : nI a = nI (a - b) + nI b := by rw [nI_add]; congr 1; omega
  rw [h1]
  exact Int32.add_sub_cancel _ _
noncomputable def bI (p : Prop) : Int32 := @ite _ p (Classical.propDecidable p) 1 0
set_option maxHeartbeats 400000 in
theorem bI_t {p : Prop} (h : p) : bI p = 1 := by unfold bI; exact if_pos h
set_option maxHeartbeats 400000 in
theorem bI_f {p : Prop} (h : ¬ p) : bI p = 0 := by unfold bI; exact if_neg h
set_option maxHeartbeats 400000 in
theorem bI_0 {p : Prop} : bI p = 0 ↔ ¬ p := by
  by_cases h : p
  · rw [bI_t h]; simp [h]
  · rw [bI_f h]; simp [h]
set_option maxHeartbeats 400000 in
theorem bI_z {p : Prop} : narrow .boolean (.int (bI p)) = .int (bI p) := by
  by_cases h : p
  · rw [bI_t h]; rfl
  · rw [bI_f h]; rfl
def iR (x : Int32) (n : Nat) : Prop := ∃ k, k < n ∧ x = nI k
section Y6
variable {G : Nat × (Nat → Int32)} {M : Mi} {cap : Nat × Nat} {pc pc2 : Nat} {ls ls2 : List (Option Value)} {st : List Value} {σ : Sg} {lay : Ly} {mm : Mm} {Q : Option Value → Sg → Prop}
set_option maxHeartbeats 400000 in
theorem Y_top {x y : Int32} (he : x = y) (k : Y G M cap pc ls (.int y :: st) σ Q) : Y G M cap pc ls (.int x :: st) σ Q := he ▸ k
set_option maxHeartbeats 400000 in
theorem Y_mem {m2 : Mm} (he : mm = m2) (k : Y G M cap pc ls st (lay, m2) Q) : Y G M cap pc ls st (lay, mm) Q := he ▸ k
set_option maxHeartbeats 400000 in
theorem Y_if_eqb {off : Int} {q : Prop} {tgt : Nat} (i : Nat) (h : (m_t M)[i]? = some (pc, .ifCond .eq off, 3)) (hp : pc + 3 = pc2) (ht : (pc : Int) + off = (tgt : Int)) (kt : ¬ q → Y G M cap tgt ls st σ Q) (kf : q → Y G M cap pc2 ls st σ Q) : Y G M cap pc ls (.int (bI q) :: st) σ Q :=
  Y_if_eq i h hp ht (fun hh => kt (bI_0.mp hh)) (fun hh => kf (Classical.byContradiction (fun hn => hh (bI_f hn))))
set_option maxHeartbeats 400000 in
theorem Y_if_neb {off : Int} {q : Prop} {tgt : Nat} (i : Nat) (h : (m_t M)[i]? = some (pc, .ifCond .ne off, 3)) (hp : pc + 3 = pc2) (ht : (pc : Int) + off = (tgt : Int)) (kt : q → Y G M cap tgt ls st σ Q) (kf : ¬ q → Y G M cap pc2 ls st σ Q) : Y G M cap pc ls (.int (bI q) :: st) σ Q :=
  Y_if_ne i h hp ht (fun hh => kt (Classical.byContradiction (fun hn => hh (bI_f hn)))) (fun hh => kf (bI_0.mp hh))
set_option maxHeartbeats 400000 in
theorem Y_icmp_eqn {off : Int} {x y tgt : Nat} (i : Nat) (h : (m_t M)[i]? = some (pc, .if_icmp .eq off, 3)) (hp : pc + 3 = pc2) (ht : (pc : Int) + off = (tgt : Int)) (hx : x < 2 ^ 31) (hy : y < 2 ^ 31) (kt : x = y → Y G M cap tgt ls st σ Q) (kf : ¬ x = y → Y G M cap pc2 ls st σ Q) : Y G M cap pc ls (.int (nI y) :: .int (nI x) :: st) σ Q :=
  Y_icmp_eq i h hp ht (fun hh => kt ((nI_eq hx hy).mp hh)) (fun hh => kf (fun e => hh ((nI_eq hx hy).mpr e)))
set_option maxHeartbeats 400000 in
theorem Y_icmp_nen {off : Int} {x y tgt : Nat} (i : Nat) (h : (m_t M)[i]? = some (pc, .if_icmp .ne off, 3)) (hp : pc + 3 = pc2) (ht : (pc : Int) + off = (tgt : Int)) (hx : x < 2 ^ 31) (hy : y < 2 ^ 31) (kt : ¬ x = y → Y G M cap tgt ls st σ Q) (kf : ¬ ¬ x = y → Y G M cap pc2 ls st σ Q) : Y G M cap pc ls (.int (nI y) :: .int (nI x) :: st) σ Q :=
  Y_icmp_ne i h hp ht (fun hh => kt (fun e => hh ((nI_eq hx hy).mpr e))) (fun hh => kf (fun e => e ((nI_eq hx hy).mp hh)))
set_option maxHeartbeats 400000 in
theorem Y_icmp_ltn {off : Int} {x y tgt : Nat} (i : Nat) (h : (m_t M)[i]? = some (pc, .if_icmp .lt off, 3)) (hp : pc + 3 = pc2) (ht : (pc : Int) + off = (tgt : Int)) (hx : x < 2 ^ 31) (hy : y < 2 ^ 31) (kt : x < y → Y G M cap tgt ls st σ Q) (kf : ¬ x < y → Y G M cap pc2 ls st σ Q) : Y G M cap pc ls (.int (nI y) :: .int (nI x) :: st) σ Q :=
  Y_icmp_lt i h hp ht (fun hh => kt ((nI_ltI hx hy).mp hh)) (fun hh => kf (fun e => hh ((nI_ltI hx hy).mpr e)))
set_option maxHeartbeats 400000 in
theorem Y_icmp_gen {off : Int} {x y tgt : Nat} (i : Nat) (h : (m_t M)[i]? = some (pc, .if_icmp .ge off, 3)) (hp : pc + 3 = pc2) (ht : (pc : Int) + off = (tgt : Int)) (hx : x < 2 ^ 31) (hy : y < 2 ^ 31) (kt : y ≤ x → Y G M cap tgt ls st σ Q) (kf : ¬ y ≤ x → Y G M cap pc2 ls st σ Q) : Y G M cap pc ls (.int (nI y) :: .int (nI x) :: st) σ Q :=
  Y_icmp_ge i h hp ht (fun hh => kt ((nI_leI hy hx).mp hh)) (fun hh => kf (fun e => hh ((nI_leI hy hx).mpr e)))
set_option maxHeartbeats 400000 in
theorem Y_icmp_gtn {off : Int} {x y tgt : Nat} (i : Nat) (h : (m_t M)[i]? = some (pc, .if_icmp .gt off, 3)) (hp : pc + 3 = pc2) (ht : (pc : Int) + off = (tgt : Int)) (hx : x < 2 ^ 31) (hy : y < 2 ^ 31) (kt : y < x → Y G M cap tgt ls st σ Q) (kf : ¬ y < x → Y G M cap pc2 ls st σ Q) : Y G M cap pc ls (.int (nI y) :: .int (nI x) :: st) σ Q :=
  Y_icmp_gt i h hp ht (fun hh => kt ((nI_ltI hy hx).mp hh)) (fun hh => kf (fun e => hh ((nI_ltI hy hx).mpr e)))
set_option maxHeartbeats 400000 in
theorem Y_icmp_len {off : Int} {x y tgt : Nat} (i : Nat) (h : (m_t M)[i]? = some (pc, .if_icmp .le off, 3)) (hp : pc + 3 = pc2) (ht : (pc : Int) + off = (tgt : Int)) (hx : x < 2 ^ 31) (hy : y < 2 ^ 31) (kt : x ≤ y → Y G M cap tgt ls st σ Q) (kf : ¬ x ≤ y → Y G M cap pc2 ls st σ Q) : Y G M cap pc ls (.int (nI y) :: .int (nI x) :: st) σ Q :=
  Y_icmp_le i h hp ht (fun hh => kt ((nI_leI hx hy).mp hh)) (fun hh => kf (fun e => hh ((nI_leI hx hy).mpr e)))
end Y6
