/-! THE ABSTRACT STATE: S holds the reference's lasting cells; WF says their ranges, RC what the class's cells are, RM what the reference's are -/
noncomputable def cI {α : Type} (p : Prop) (a b : α) : α := @ite α p (Classical.propDecidable p) a b
set_option maxHeartbeats 400000 in
theorem cI_t {α : Type} {p : Prop} {a b : α} (h : p) : cI p a b = a := by unfold cI; exact if_pos h
set_option maxHeartbeats 400000 in
theorem cI_f {α : Type} {p : Prop} {a b : α} (h : ¬ p) : cI p a b = b := by unfold cI; exact if_neg h
def nv (x : Int32) : Nat := x.toNatClampNeg
set_option maxHeartbeats 400000 in
theorem nv_nI {k : Nat} (h : k < 2 ^ 31) : nv (nI k) = k := nI_clamp h
def oR (x : Int32) (n : Nat) : Prop := x = -1 ∨ iR x n
def bt (S : Mm) (c : Nat) : Nat := nv (S 154 c)
def us (S : Mm) (l w : Nat) : Nat := nv (S 159 (3 * l + w))
def pn (S : Mm) : Nat := nv (S 153 6)
def pC (S : Mm) (p : Nat) : Nat := nv (S 160 p)
def pT (S : Mm) (p : Nat) : Nat := nv (S 161 p)
def tpd (S : Mm) : Nat := nv (S 153 12)
def plc (S : Mm) (s : Nat) : Nat := nv (S 165 s)
def oC (x : Int32) : Int32 := if x < 0 then NONE_ else x
def oS (x : Int32) : Int32 := if x = -9 then NONE_ else x
def ix (l f h s : Nat) : Nat := 16 * (2 * (6 * l + f) + h) + s
def iy (l f s : Nat) : Nat := 16 * (6 * l + f) + s
def ln (row : Nat → Int32) : Nat → Int32
  | 0 => -1
  | k + 1 => if row k < 0 then ln row k else row k
def rw_ (S : Mm) (c : Nat) : Nat → Int32 := fun b => S 155 (32 * c + b)
def toneR (row : Nat → Int32) (n b : Nat) : Int32 := if ln row (b + 1) < 0 then (if ln row n < 0 then nI 0 else ln row n) else ln row (b + 1)
def tone (S : Mm) (c b : Nat) : Int32 := toneR (rw_ S c) (bt S c) b
def nxt (n b : Nat) : Nat := if b + 1 < n then b + 1 else 0
def turnR (u w : Int32) : Nat := if w = u then 0 else if u < w then 1 else 2
def turn (S : Mm) (c b : Nat) : Nat := turnR (tone S c b) (tone S c (nxt (bt S c) b))
noncomputable def cnt (f : Nat → Prop) : Nat → Nat
  | 0 => 0
  | k + 1 => cnt f k + cI (f k) 1 0
noncomputable def fst_ (f : Nat → Prop) : Nat → Nat
  | 0 => 0
  | k + 1 => cI (fst_ f k < k) (fst_ f k) (cI (f k) k (k + 1))
def isS (x : Int32) : Prop := x = -9 ∨ ∃ j, j < 9 ∧ x = nI j - nI 4
noncomputable def sigs (S : Mm) : Nat := cnt (fun r => ¬ S 163 r < 0) 144
def WF (S : Mm) : Prop :=
  (∀ c, c < 4 → S 154 c = nI (bt S c) ∧ 2 ≤ bt S c ∧ bt S c ≤ 32) ∧
  (∀ i, i < 128 → oR (S 155 i) 7) ∧
  (∀ i, i < 128 → oR (S 156 i) 4) ∧
  (∀ i, i < 768 → isS (S 157 i)) ∧
  (∀ i, i < 384 → iR (S 158 i) 2) ∧
  (∀ l w, l < 4 → w < 3 → S 159 (3 * l + w) = nI (us S l w) ∧ us S l w < 6) ∧
  (S 153 6 = nI (pn S) ∧ pn S ≤ 16) ∧
  (∀ p, p < 16 → S 160 p = nI (pC S p) ∧ pC S p < 4) ∧
  (∀ p, p < 16 → S 161 p = nI (pT S p) ∧ pT S p ≤ 9) ∧
  (∀ p, p < pn S → 1 ≤ pT S p) ∧
  (∀ p, p < 16 → oR (S 162 p) 4) ∧
  (∀ r, r < 144 → oR (S 163 r) 4) ∧
  (S 153 12 = nI (tpd S) ∧ tpd S ≤ 64) ∧
  (∀ i, i < 64 → iR (S 164 i) 256) ∧
  (∀ s, s < 2 → oR (S 165 s) 17) ∧
  (∀ i, i < 32 → (S 166 i).toInt8.toInt32 = S 166 i) ∧
  sigs S ≤ 20
def RC (m S : Mm) : Prop :=
  (∀ c, c < 4 → m (21 + 5 * c) 4 = S 154 c) ∧
  (∀ c b, c < 4 → b < 32 → m (22 + 5 * c) b = oC (S 155 (32 * c + b))) ∧
  (∀ c b, c < 4 → b < 32 → m (23 + 5 * c) b = oC (S 156 (32 * c + b))) ∧
  (∀ c b, c < 4 → b < bt S c → m (24 + 5 * c) b = tone S c b) ∧
  (∀ c b, c < 4 → b < bt S c → m (25 + 5 * c) b = nI (turn S c b)) ∧
  (∀ l, l < 4 → m (41 + 27 * l) 0 = nI (2 ^ (l + 1))) ∧
  (∀ l f h s, l < 4 → f < 6 → h < 2 → s < 2 ^ (l + 1) → m (45 + 27 * l + 4 * f + h) s = oS (S 157 (ix l f h s))) ∧
  (∀ l f s, l < 4 → f < 6 → s < 2 ^ (l + 1) → m (47 + 27 * l + 4 * f) s = S 158 (iy l f s)) ∧
  (∀ l w, l < 4 → w < 3 → m (43 + 27 * l) w = S 159 (3 * l + w)) ∧
  m 8 4 = S 153 6 ∧
  (∀ p, p < 16 → m 9 p = S 160 p) ∧
  (∀ p, p < 16 → m 10 p = S 161 p) ∧
  (∀ p, p < 16 → m 11 p = oC (S 162 p)) ∧
  (∀ r, r < 144 → m 12 r = oC (S 163 r)) ∧
  m 8 5 = nI (sigs S) ∧
  m 1 1 = S 153 12 ∧
  (∀ i, i < 64 → m 2 i = (S 164 i).toInt8.toInt32) ∧
  (∀ s, s < 2 → m (149 + 2 * s) 1 = S 165 s) ∧
  (∀ s i, s < 2 → i < plc S s → m (150 + 2 * s) i = S 166 (16 * s + i))
def RM (m S : Mm) : Prop := (∀ a, 154 ≤ a → a ≤ 166 → m a = S a) ∧ m 153 6 = S 153 6 ∧ m 153 12 = S 153 12
def scr (a : Nat) : Prop := (3 ≤ a ∧ a ≤ 5) ∨ (13 ≤ a ∧ a ≤ 19 ∧ a ≠ 14)
/-- the class's answer: the value, the class's cells, the reference's cells untouched -/
def pc_ (x : Int32) (m S : Mm) : Option Value → Mm → Prop := fun v m' => v = some (.int x) ∧ RC m' S ∧ ∀ a, 153 ≤ a → m' a = m a
/-- a question: nothing but scratch changes -/
def ps_ (x : Int32) (m : Mm) : Option Value → Mm → Prop := fun v m' => v = some (.int x) ∧ ∀ a, ¬ scr a → m' a = m a
def pm_ (x : Int32) (m S : Mm) : Option Value → Mm → Prop := fun v m' => v = some (.int x) ∧ RM m' S ∧ ∀ a, a < 153 → m' a = m a
set_option maxHeartbeats 400000 in
theorem WF.b {S : Mm} (h : WF S) : (∀ c, c < 4 → S 154 c = nI (bt S c) ∧ 2 ≤ bt S c ∧ bt S c ≤ 32) := h.1
set_option maxHeartbeats 400000 in
theorem WF.n {S : Mm} (h : WF S) : (∀ i, i < 128 → oR (S 155 i) 7) := h.2.1
set_option maxHeartbeats 400000 in
theorem WF.g {S : Mm} (h : WF S) : (∀ i, i < 128 → oR (S 156 i) 4) := h.2.2.1
set_option maxHeartbeats 400000 in
theorem WF.s {S : Mm} (h : WF S) : (∀ i, i < 768 → isS (S 157 i)) := h.2.2.2.1
set_option maxHeartbeats 400000 in
theorem WF.m {S : Mm} (h : WF S) : (∀ i, i < 384 → iR (S 158 i) 2) := h.2.2.2.2.1
set_option maxHeartbeats 400000 in
theorem WF.u {S : Mm} (h : WF S) : (∀ l w, l < 4 → w < 3 → S 159 (3 * l + w) = nI (us S l w) ∧ us S l w < 6) := h.2.2.2.2.2.1
set_option maxHeartbeats 400000 in
theorem WF.p {S : Mm} (h : WF S) : (S 153 6 = nI (pn S) ∧ pn S ≤ 16) := h.2.2.2.2.2.2.1
set_option maxHeartbeats 400000 in
theorem WF.c {S : Mm} (h : WF S) : (∀ p, p < 16 → S 160 p = nI (pC S p) ∧ pC S p < 4) := h.2.2.2.2.2.2.2.1
set_option maxHeartbeats 400000 in
theorem WF.t {S : Mm} (h : WF S) : (∀ p, p < 16 → S 161 p = nI (pT S p) ∧ pT S p ≤ 9) := h.2.2.2.2.2.2.2.2.1
set_option maxHeartbeats 400000 in
theorem WF.t1 {S : Mm} (h : WF S) : (∀ p, p < pn S → 1 ≤ pT S p) := h.2.2.2.2.2.2.2.2.2.1
set_option maxHeartbeats 400000 in
theorem WF.l {S : Mm} (h : WF S) : (∀ p, p < 16 → oR (S 162 p) 4) := h.2.2.2.2.2.2.2.2.2.2.1
set_option maxHeartbeats 400000 in
theorem WF.r {S : Mm} (h : WF S) : (∀ r, r < 144 → oR (S 163 r) 4) := h.2.2.2.2.2.2.2.2.2.2.2.1
set_option maxHeartbeats 400000 in
theorem WF.tp {S : Mm} (h : WF S) : (S 153 12 = nI (tpd S) ∧ tpd S ≤ 64) := h.2.2.2.2.2.2.2.2.2.2.2.2.1
set_option maxHeartbeats 400000 in
theorem WF.tv {S : Mm} (h : WF S) : (∀ i, i < 64 → iR (S 164 i) 256) := h.2.2.2.2.2.2.2.2.2.2.2.2.2.1
set_option maxHeartbeats 400000 in
theorem WF.pl {S : Mm} (h : WF S) : (∀ s, s < 2 → oR (S 165 s) 17) := h.2.2.2.2.2.2.2.2.2.2.2.2.2.2.1
set_option maxHeartbeats 400000 in
theorem WF.k {S : Mm} (h : WF S) : (∀ i, i < 32 → (S 166 i).toInt8.toInt32 = S 166 i) := h.2.2.2.2.2.2.2.2.2.2.2.2.2.2.2.1
set_option maxHeartbeats 400000 in
theorem WF.sg {S : Mm} (h : WF S) : sigs S ≤ 20 := h.2.2.2.2.2.2.2.2.2.2.2.2.2.2.2.2
set_option maxHeartbeats 400000 in
theorem RC.b {m S : Mm} (h : RC m S) : (∀ c, c < 4 → m (21 + 5 * c) 4 = S 154 c) := h.1
set_option maxHeartbeats 400000 in
theorem RC.n {m S : Mm} (h : RC m S) : (∀ c b, c < 4 → b < 32 → m (22 + 5 * c) b = oC (S 155 (32 * c + b))) := h.2.1
set_option maxHeartbeats 400000 in
theorem RC.g {m S : Mm} (h : RC m S) : (∀ c b, c < 4 → b < 32 → m (23 + 5 * c) b = oC (S 156 (32 * c + b))) := h.2.2.1
set_option maxHeartbeats 400000 in
theorem RC.t {m S : Mm} (h : RC m S) : (∀ c b, c < 4 → b < bt S c → m (24 + 5 * c) b = tone S c b) := h.2.2.2.1
set_option maxHeartbeats 400000 in
theorem RC.u {m S : Mm} (h : RC m S) : (∀ c b, c < 4 → b < bt S c → m (25 + 5 * c) b = nI (turn S c b)) := h.2.2.2.2.1
set_option maxHeartbeats 400000 in
theorem RC.l {m S : Mm} (h : RC m S) : (∀ l, l < 4 → m (41 + 27 * l) 0 = nI (2 ^ (l + 1))) := h.2.2.2.2.2.1
set_option maxHeartbeats 400000 in
theorem RC.r {m S : Mm} (h : RC m S) : (∀ l f h s, l < 4 → f < 6 → h < 2 → s < 2 ^ (l + 1) → m (45 + 27 * l + 4 * f + h) s = oS (S 157 (ix l f h s))) := h.2.2.2.2.2.2.1
set_option maxHeartbeats 400000 in
theorem RC.m {m S : Mm} (h : RC m S) : (∀ l f s, l < 4 → f < 6 → s < 2 ^ (l + 1) → m (47 + 27 * l + 4 * f) s = S 158 (iy l f s)) := h.2.2.2.2.2.2.2.1
set_option maxHeartbeats 400000 in
theorem RC.us {m S : Mm} (h : RC m S) : (∀ l w, l < 4 → w < 3 → m (43 + 27 * l) w = S 159 (3 * l + w)) := h.2.2.2.2.2.2.2.2.1
set_option maxHeartbeats 400000 in
theorem RC.p {m S : Mm} (h : RC m S) : m 8 4 = S 153 6 := h.2.2.2.2.2.2.2.2.2.1
set_option maxHeartbeats 400000 in
theorem RC.c {m S : Mm} (h : RC m S) : (∀ p, p < 16 → m 9 p = S 160 p) := h.2.2.2.2.2.2.2.2.2.2.1
set_option maxHeartbeats 400000 in
theorem RC.pt {m S : Mm} (h : RC m S) : (∀ p, p < 16 → m 10 p = S 161 p) := h.2.2.2.2.2.2.2.2.2.2.2.1
set_option maxHeartbeats 400000 in
theorem RC.pl {m S : Mm} (h : RC m S) : (∀ p, p < 16 → m 11 p = oC (S 162 p)) := h.2.2.2.2.2.2.2.2.2.2.2.2.1
set_option maxHeartbeats 400000 in
theorem RC.sg {m S : Mm} (h : RC m S) : (∀ r, r < 144 → m 12 r = oC (S 163 r)) := h.2.2.2.2.2.2.2.2.2.2.2.2.2.1
set_option maxHeartbeats 400000 in
theorem RC.sn {m S : Mm} (h : RC m S) : m 8 5 = nI (sigs S) := h.2.2.2.2.2.2.2.2.2.2.2.2.2.2.1
set_option maxHeartbeats 400000 in
theorem RC.tp {m S : Mm} (h : RC m S) : m 1 1 = S 153 12 := h.2.2.2.2.2.2.2.2.2.2.2.2.2.2.2.1
set_option maxHeartbeats 400000 in
theorem RC.tv {m S : Mm} (h : RC m S) : (∀ i, i < 64 → m 2 i = (S 164 i).toInt8.toInt32) := h.2.2.2.2.2.2.2.2.2.2.2.2.2.2.2.2.1
set_option maxHeartbeats 400000 in
theorem RC.sp {m S : Mm} (h : RC m S) : (∀ s, s < 2 → m (149 + 2 * s) 1 = S 165 s) := h.2.2.2.2.2.2.2.2.2.2.2.2.2.2.2.2.2.1
set_option maxHeartbeats 400000 in
theorem RC.sb {m S : Mm} (h : RC m S) : (∀ s i, s < 2 → i < plc S s → m (150 + 2 * s) i = S 166 (16 * s + i)) := h.2.2.2.2.2.2.2.2.2.2.2.2.2.2.2.2.2.2

set_option maxHeartbeats 400000 in
theorem RC.mono {m m' S : Mm} (h : RC m S) (e : ∀ a, ¬ scr a → a < 153 → m' a = m a) : RC m' S := by
  refine ⟨fun c hc => ?_, fun c b hc hb => ?_, fun c b hc hb => ?_, fun c b hc hb => ?_, fun c b hc hb => ?_, fun l hl => ?_, fun l f g s hl hf hg hs => ?_, fun l f s hl hf hs => ?_, fun l w hl hw => ?_, ?_, fun p hp => ?_, fun p hp => ?_, fun p hp => ?_, fun r hr => ?_, ?_, ?_, fun i hi => ?_, fun s hs => ?_, fun s i hs hi => ?_⟩
  · rw [e _ (by unfold scr; omega) (by omega)]; exact h.b c hc
  · rw [e _ (by unfold scr; omega) (by omega)]; exact h.n c b hc hb
  · rw [e _ (by unfold scr; omega) (by omega)]; exact h.g c b hc hb
  · rw [e _ (by unfold scr; omega) (by omega)]; exact h.t c b hc hb
  · rw [e _ (by unfold scr; omega) (by omega)]; exact h.u c b hc hb
  · rw [e _ (by unfold scr; omega) (by omega)]; exact h.l l hl
  · rw [e _ (by unfold scr; omega) (by omega)]; exact h.r l f g s hl hf hg hs
  · rw [e _ (by unfold scr; omega) (by omega)]; exact h.m l f s hl hf hs
  · rw [e _ (by unfold scr; omega) (by omega)]; exact h.us l w hl hw
  · rw [e _ (by unfold scr; omega) (by omega)]; exact h.p
  · rw [e _ (by unfold scr; omega) (by omega)]; exact h.c p hp
  · rw [e _ (by unfold scr; omega) (by omega)]; exact h.pt p hp
  · rw [e _ (by unfold scr; omega) (by omega)]; exact h.pl p hp
  · rw [e _ (by unfold scr; omega) (by omega)]; exact h.sg r hr
  · rw [e _ (by unfold scr; omega) (by omega)]; exact h.sn
  · rw [e _ (by unfold scr; omega) (by omega)]; exact h.tp
  · rw [e _ (by unfold scr; omega) (by omega)]; exact h.tv i hi
  · rw [e _ (by unfold scr; omega) (by omega)]; exact h.sp s hs
  · rw [e _ (by unfold scr; omega) (by omega)]; exact h.sb s i hs hi
set_option maxHeartbeats 400000 in
theorem RM.mono {m m' S : Mm} (h : RM m S) (e : ∀ a, 153 ≤ a → m' a = m a) : RM m' S :=
  ⟨fun a h1 h2 => (e a (by omega)).trans (h.1 a h1 h2), by rw [e _ (by omega)]; exact h.2.1, by rw [e _ (by omega)]; exact h.2.2⟩
set_option maxHeartbeats 400000 in
theorem ps_pc {x : Int32} {m S : Mm} (h : RC m S) {v : Option Value} {m' : Mm} (hp : ps_ x m v m') : pc_ x m S v m' :=
  ⟨hp.1, h.mono (fun a h1 _ => hp.2 a h1), fun a ha => hp.2 a (by unfold scr; omega)⟩
set_option maxHeartbeats 400000 in
theorem oR_neg {x : Int32} {n : Nat} (hn : n < 2 ^ 31) (h : oR x n) : x < 0 ↔ x = -1 := by
  rcases h with rfl | ⟨k, hk, rfl⟩
  · exact ⟨fun _ => rfl, fun _ => by decide⟩
  · refine ⟨fun e => absurd e (nI_pos (by omega)), fun e => ?_⟩
    rw [e]; decide
set_option maxHeartbeats 400000 in
theorem nI_none {k : Nat} (h : k < 2 ^ 31) : ¬ nI k = NONE_ := fun e => by
  have : nI k < 0 := by rw [e]; decide
  exact absurd this (nI_pos h)
set_option maxHeartbeats 400000 in
theorem oC_none {x : Int32} {n : Nat} (hn : n < 2 ^ 31) (h : oR x n) : oC x = NONE_ ↔ x < 0 := by
  unfold oC
  rcases h with rfl | ⟨k, hk, rfl⟩
  · exact ⟨fun _ => by decide, fun _ => if_pos (by decide)⟩
  · rw [if_neg (nI_pos (by omega))]
    exact ⟨fun e => absurd e (nI_none (by omega)), fun e => absurd e (nI_pos (by omega))⟩
set_option maxHeartbeats 400000 in
theorem oC_id {x : Int32} (h : ¬ x < 0) : oC x = x := if_neg h
set_option maxHeartbeats 400000 in
theorem oC_no {x : Int32} (h : x < 0) : oC x = NONE_ := if_pos h
set_option maxHeartbeats 400000 in
theorem oS_none {x : Int32} (h : isS x) : oS x = NONE_ ↔ x = -9 := by
  unfold oS
  rcases h with rfl | ⟨j, hj, rfl⟩
  · exact ⟨fun _ => rfl, fun _ => rfl⟩
  · have : j = 0 ∨ j = 1 ∨ j = 2 ∨ j = 3 ∨ j = 4 ∨ j = 5 ∨ j = 6 ∨ j = 7 ∨ j = 8 := by omega
    rcases this with rfl | rfl | rfl | rfl | rfl | rfl | rfl | rfl | rfl <;> decide
set_option maxHeartbeats 400000 in
theorem iR_pos {x : Int32} {n : Nat} (hn : n < 2 ^ 31) (h : iR x n) : ¬ x < 0 := by
  obtain ⟨k, hk, rfl⟩ := h
  exact nI_pos (by omega)
set_option maxHeartbeats 400000 in
theorem ln_or {row : Nat → Int32} {n : Nat} : ∀ k, (∀ i, i < k → oR (row i) n) → oR (ln row k) n
  | 0, _ => Or.inl rfl
  | k + 1, h => by
    show oR (if row k < 0 then ln row k else row k) n
    split
    · exact ln_or k (fun i hi => h i (by omega))
    · exact h k (by omega)
set_option maxHeartbeats 400000 in
theorem toneR_iR {row : Nat → Int32} {n b : Nat} (h : ∀ i, i < n → oR (row i) 7) (hb : b < n) : iR (toneR row n b) 7 := by
  have h1 := ln_or (n := 7) (b + 1) (fun i hi => h i (by omega))
  have h2 := ln_or (n := 7) n h
  unfold toneR
  split
  · split
    · exact ⟨0, by decide, rfl⟩
    · rcases h2 with e | e
      · rename_i hh; exact absurd (by rw [e]; decide) hh
      · exact e
  · rcases h1 with e | e
    · rename_i hh; exact absurd (by rw [e]; decide) hh
    · exact e
set_option maxHeartbeats 400000 in
theorem tone_iR {S : Mm} (w : WF S) {c b : Nat} (hc : c < 4) (hb : b < bt S c) : iR (tone S c b) 7 :=
  toneR_iR (fun i hi => w.n _ (by have := (w.b c hc).2.2; omega)) hb
set_option maxHeartbeats 400000 in
theorem turn_lt {S : Mm} {c b : Nat} : turn S c b < 3 := by
  unfold turn turnR
  split
  · omega
  · split <;> omega
set_option maxHeartbeats 400000 in
theorem nxt_lt {n b : Nat} (h : 0 < n) : nxt n b < n := by
  unfold nxt
  split <;> omega
set_option maxHeartbeats 400000 in
theorem ky_d : ∀ t, t < 7 → ∀ j, j < 9 → nv (ky (nI t) (nI j - nI 4)) < 10 ∧ ky (nI t) (nI j - nI 4) = nI (nv (ky (nI t) (nI j - nI 4))) := by decide +kernel
set_option maxHeartbeats 400000 in
theorem ky_nat {t j : Nat} (ht : t < 7) (hj : j < 9) : iR (ky (nI t) (nI j - nI 4)) 10 := ⟨_, (ky_d t ht j hj).1, (ky_d t ht j hj).2⟩
set_option maxHeartbeats 400000 in
theorem cnt_t {f : Nat → Prop} {k : Nat} (h : f k) : cnt f (k + 1) = cnt f k + 1 := by
  show cnt f k + cI (f k) 1 0 = _
  rw [cI_t h]
set_option maxHeartbeats 400000 in
theorem cnt_f {f : Nat → Prop} {k : Nat} (h : ¬ f k) : cnt f (k + 1) = cnt f k := by
  show cnt f k + cI (f k) 1 0 = _
  rw [cI_f h, Nat.add_zero]
set_option maxHeartbeats 400000 in
theorem cnt_le {f : Nat → Prop} : ∀ n, cnt f n ≤ n
  | 0 => Nat.le_refl 0
  | n + 1 => by
    have := cnt_le (f := f) n
    by_cases h : f n
    · rw [cnt_t h]; omega
    · rw [cnt_f h]; omega
set_option maxHeartbeats 400000 in
theorem cnt_congr {f g : Nat → Prop} : ∀ n, (∀ i, i < n → (f i ↔ g i)) → cnt f n = cnt g n
  | 0, _ => rfl
  | n + 1, h => by
    have h1 := cnt_congr n (fun i hi => h i (by omega))
    by_cases hf : f n
    · rw [cnt_t hf, cnt_t ((h n (by omega)).mp hf), h1]
    · rw [cnt_f hf, cnt_f (mt (h n (by omega)).mpr hf), h1]
set_option maxHeartbeats 400000 in
theorem fst_none {f : Nat → Prop} : ∀ n, (∀ i, i < n → ¬ f i) → fst_ f n = n
  | 0, _ => rfl
  | n + 1, h => by
    show cI (fst_ f n < n) (fst_ f n) (cI (f n) n (n + 1)) = n + 1
    rw [fst_none n (fun i hi => h i (by omega)), cI_f (by omega), cI_f (h n (by omega))]
set_option maxHeartbeats 400000 in
theorem fst_is {f : Nat → Prop} {i : Nat} (h : ∀ j, j < i → ¬ f j) (hi : f i) : ∀ n, i < n → fst_ f n = i
  | 0, hn => by omega
  | n + 1, hn => by
    show cI (fst_ f n < n) (fst_ f n) (cI (f n) n (n + 1)) = i
    by_cases e : i = n
    · subst e
      rw [fst_none i h, cI_f (by omega), cI_t hi]
    · rw [fst_is h hi n (by omega), cI_t (by omega)]
set_option maxHeartbeats 400000 in
theorem fst_le {f : Nat → Prop} : ∀ n, fst_ f n ≤ n
  | 0 => Nat.le_refl 0
  | n + 1 => by
    have := fst_le (f := f) n
    show cI (fst_ f n < n) (fst_ f n) (cI (f n) n (n + 1)) ≤ n + 1
    by_cases h : fst_ f n < n
    · rw [cI_t h]; omega
    · rw [cI_f h]
      by_cases h2 : f n
      · rw [cI_t h2]; omega
      · rw [cI_f h2]; omega
set_option maxHeartbeats 400000 in
theorem fst_all {f : Nat → Prop} {n : Nat} (h : fst_ f n = n) : ∀ i, i < n → ¬ f i := by
  intro i hi hf
  by_cases hh : ∀ j, j < n → ¬ f j
  · exact hh i hi hf
  · have : ∃ j, j < n ∧ f j := ⟨i, hi, hf⟩
    have hq : ∀ q, (∃ j, j < q ∧ f j) → ∃ j, j < q ∧ f j ∧ ∀ t, t < j → ¬ f t := by
      intro q
      induction q with
      | zero => rintro ⟨j, hj, _⟩; omega
      | succ q ih =>
        rintro ⟨j, hj, hfj⟩
        by_cases h2 : ∃ t, t < q ∧ f t
        · obtain ⟨t, ht, a, b⟩ := ih h2
          exact ⟨t, by omega, a, b⟩
        · refine ⟨j, hj, hfj, fun t ht hft => h2 ⟨t, by omega, hft⟩⟩
    obtain ⟨j, hj, hfj, hl⟩ := hq n this
    have := fst_is hl hfj n hj
    omega
set_option maxHeartbeats 400000 in
theorem ind_ {P : Nat → Prop} {n : Nat} (h : ∀ i, i ≤ n → (∀ j, i < j → j ≤ n → P j) → P i) : ∀ i, i ≤ n → P i := by
  intro i hi
  have : ∀ k i, i ≤ n → n - i ≤ k → P i := by
    intro k
    induction k with
    | zero => intro i hi hk; exact h i hi (fun j h1 h2 => by omega)
    | succ k ih => intro i hi hk; exact h i hi (fun j h1 h2 => ih j h2 (by omega))
  exact this n i hi (by omega)
set_option maxHeartbeats 400000 in
theorem indD {P : Nat → Prop} (h : ∀ i, (∀ j, j < i → P j) → P i) : ∀ i, P i := by
  intro i
  have : ∀ k i, i ≤ k → P i := by
    intro k
    induction k with
    | zero => intro i hi; exact h i (fun j h1 => by omega)
    | succ k ih => intro i hi; exact h i (fun j h1 => ih j (by omega))
  exact this i i (Nat.le_refl i)
set_option maxHeartbeats 400000 in
theorem Y_ls {G : Nat × (Nat → Int32)} {M : Mi} {cap : Nat × Nat} {pc : Nat} {ls ls2 : List (Option Value)} {st : List Value} {σ : Sg} {Q : Option Value → Sg → Prop} (he : ls = ls2) (k : Y G M cap pc ls2 st σ Q) : Y G M cap pc ls st σ Q := he ▸ k
