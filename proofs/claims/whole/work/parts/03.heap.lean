/-! rules of the heap -/
/-- the entry 'index' of the class 'own' links slot k of class number ci -/
def fl_ (own : String) (index ci k : Nat) : Prop := ∃ (C : String) (T : u_T) (N : Nat), vwCl[ci]? = some (C, T, N) ∧ ci < 11 ∧ k < N ∧ (∀ w ∈ u_ws C T N, w ∈ Tb) ∧ (∀ k, k < N → parseFieldDescriptor (T k).2.2.1 = some (ty_c ci k)) ∧ (∀ a, a < N → ∀ b, b < N → a ≠ b → (T a).2.1 ≠ (T b).2.1) ∧ (T k).1 = C ∧ Cond.fieldLink own index (T k).1 (T k).2.1 (T k).2.2.1 ∈ Tb
def ff_ (own : String) (ci k : Nat) : Prop := ∃ (C : String) (T : u_T) (N : Nat), vwCl[ci]? = some (C, T, N) ∧ (T k).2.2.2 = true ∧ (T k).1 = own
def fn_ (ci k : Nat) : Prop := ∃ (C : String) (T : u_T) (N : Nat), vwCl[ci]? = some (C, T, N) ∧ (T k).2.2.2 = false
set_option maxHeartbeats 400000 in
theorem cl_o {cA : Nat → ClassId} {base ci n : Nat} {rs : List (Option Nat)} {row : Nat → Int32} (h : ci < 11) : cl_e cA base (ci, n, rs) row = .inr (ci, (List.range n).map (fun k => if is_I (ty_c ci k) = true then Value.int (row k) else va_rf ((rs.getD k none).map (fun r => base + r)))) := by
  simp [cl_e, h]
set_option maxHeartbeats 400000 in
theorem cl_fi {ci n base : Nat} {rs : List (Option Nat)} {row : Nat → Int32} {k : Nat} (hk : k < n) (hi : is_I (ty_c ci k) = true) : ((List.range n).map (fun k => if is_I (ty_c ci k) = true then Value.int (row k) else va_rf ((rs.getD k none).map (fun r => base + r))))[k]? = some (.int (row k)) := by
  simp [hk, hi]
set_option maxHeartbeats 400000 in
theorem cl_fr {ci n base r : Nat} {rs : List (Option Nat)} {row : Nat → Int32} {k : Nat} (hk : k < n) (hi : is_I (ty_c ci k) = false) (hr : rs.getD k none = some r) : ((List.range n).map (fun k => if is_I (ty_c ci k) = true then Value.int (row k) else va_rf ((rs.getD k none).map (fun r => base + r))))[k]? = some (.ref (base + r)) := by
  rw [List.getElem?_map, List.getElem?_range hk]
  simp only [Option.map_some, hi, hr]
  rfl
set_option maxHeartbeats 400000 in
theorem cl_si {ci n base : Nat} {rs : List (Option Nat)} {row : Nat → Int32} {k : Nat} {v : Int32} (hi : is_I (ty_c ci k) = true) : ((List.range n).map (fun k => if is_I (ty_c ci k) = true then Value.int (row k) else va_rf ((rs.getD k none).map (fun r => base + r)))).set k (.int v) = (List.range n).map (fun j => if is_I (ty_c ci j) = true then Value.int (upd row k v j) else va_rf ((rs.getD j none).map (fun r => base + r))) := by
  apply List.ext_getElem?
  intro j
  by_cases hj : j = k
  · subst hj
    by_cases hn : j < n
    · simp [List.getElem?_set, hn, hi, upd]
    · simp [List.getElem?_set, hn]
  · by_cases hn : j < n
    · simp [List.getElem?_set, Ne.symm hj, hn, upd, hj]
    · simp [List.getElem?_set, Ne.symm hj, hn]
set_option maxHeartbeats 400000 in
theorem cl_sr {ci n base r : Nat} {rs : List (Option Nat)} {row : Nat → Int32} {k : Nat} (hi : is_I (ty_c ci k) = false) (hk : k < rs.length) : ((List.range n).map (fun k => if is_I (ty_c ci k) = true then Value.int (row k) else va_rf ((rs.getD k none).map (fun r => base + r)))).set k (.ref (base + r)) = (List.range n).map (fun j => if is_I (ty_c ci j) = true then Value.int (row j) else va_rf (((rs.set k (some r)).getD j none).map (fun r => base + r))) := by
  apply List.ext_getElem?
  intro j
  by_cases hj : j = k
  · subst hj
    by_cases hn : j < n
    · simp [List.getElem?_set, hn, hi, hk, va_rf]
    · simp [List.getElem?_set, hn]
  · by_cases hn : j < n
    · simp [List.getElem?_set, Ne.symm hj, hn]
    · simp [List.getElem?_set, Ne.symm hj, hn]
set_option maxHeartbeats 400000 in
theorem At_.to {R : Room} {s : State} {D : va_G} {cA : Nat → ClassId} {base n0 s0 : Nat} {σ σ' : Sg} {H H1 : Heap} {locs locs1 : List Loc} {cells slots : Nat} (h : At_ R s D cA base n0 s0 σ H locs cells slots) (hl : σ'.1.length = σ.1.length) (hs : sl_ σ'.1 = sl_ σ.1) (hP : va_P D vwCl (wd_ cA base σ') H1) (hS : va_S (fun q => base ≤ q) s.heap H1 locs1) : At_ R s D cA base n0 s0 σ' H1 locs1 cells slots :=
  ⟨hP, by rw [hl]; exact h.2.1, hS, by rw [hl]; exact h.2.2.2.1, by rw [hs]; exact h.2.2.2.2.1, h.2.2.2.2.2⟩
set_option maxHeartbeats 400000 in
theorem At_.lt {R : Room} {s : State} {D : va_G} {cA : Nat → ClassId} {base n0 s0 : Nat} {σ : Sg} {H : Heap} {locs : List Loc} {cells slots a : Nat} {e : Nat × Nat × List (Option Nat)} (h : At_ R s D cA base n0 s0 σ H locs cells slots) (ha : σ.1[a]? = some e) : a < 1000000 := Nat.lt_of_lt_of_le (List.getElem?_eq_some_iff.mp ha).1 h.2.1
set_option maxHeartbeats 400000 in
theorem sl_set {lay : Ly} {a : Nat} {e e' : Nat × Nat × List (Option Nat)} (h : lay[a]? = some e) (he : e'.2.1 = e.2.1) : sl_ (lay.set a e') = sl_ lay := by
  unfold sl_
  congr 1
  apply List.ext_getElem?
  intro i
  by_cases hi : i = a
  · subst hi
    have ha : i < lay.length := (List.getElem?_eq_some_iff.mp h).1
    rw [List.getElem?_map, List.getElem?_map, List.getElem?_set, if_pos rfl, if_pos ha, h]
    simp [he]
  · simp [List.getElem?_set, Ne.symm hi]
section Y2
variable {G : Nat × (Nat → Int32)} {M : Mi} {cap : Nat × Nat} {pc pc2 : Nat} {ls ls2 : List (Option Value)} {st : List Value} {σ : Sg} {lay : Ly} {mm : Mm} {Q : Option Value → Sg → Prop}
set_option maxHeartbeats 400000 in
theorem Y_getI {index ci a f n : Nat} {rs : List (Option Nat)} (i : Nat) (h : (m_t M)[i]? = some (pc, .getfield index, 3)) (hp : pc + 3 = pc2) (hf : fl_ (m_y M).cls index ci f) (ha : lay[a]? = some (ci, n, rs)) (hn : f < n) (hi : is_I (ty_c ci f) = true) (k : Y G M cap pc2 ls (.int (mm a f) :: st) (lay, mm) Q) : Y G M cap pc ls (.ref a :: st) (lay, mm) Q := by
  intro p l e R s m args below meth c D cA base sp n0 s0 Z C fin H locs lsA cells slots hA hL
  subst hp
  obtain ⟨CC, T, N, h1, h11, h2, h3, h4, h5, h6, h7⟩ := hf
  have hk := (k p l e R s m args below meth c D cA base sp n0 s0 Z C fin H locs lsA cells slots hA hL)
  show W p l e R s m args below meth c H locs cells slots Z (F0 m pc lsA (tr_ base sp (.ref a) :: st.map (tr_ base sp)))
  rw [tr_ref (At_.lt hA ha)]
  exact va_get C.ex C.by C.ts h3 C.ow C.st.1 hA.1 a (he := by rw [wd_get (σ := (lay, mm)) ha, cl_o h11]) h1 f h2 (C.ts _ h7) (fun _ h9 => h9) (cl_fi hn hi) (C.dec h) hk
set_option maxHeartbeats 400000 in
theorem Y_getR {index ci a f n r : Nat} {rs : List (Option Nat)} (i : Nat) (h : (m_t M)[i]? = some (pc, .getfield index, 3)) (hp : pc + 3 = pc2) (hf : fl_ (m_y M).cls index ci f) (ha : lay[a]? = some (ci, n, rs)) (hn : f < n) (hi : is_I (ty_c ci f) = false) (hr : rs.getD f none = some r) (hr2 : r < 1000000) (k : Y G M cap pc2 ls (.ref r :: st) (lay, mm) Q) : Y G M cap pc ls (.ref a :: st) (lay, mm) Q := by
  intro p l e R s m args below meth c D cA base sp n0 s0 Z C fin H locs lsA cells slots hA hL
  subst hp
  obtain ⟨CC, T, N, h1, h11, h2, h3, h4, h5, h6, h7⟩ := hf
  have hk := (k p l e R s m args below meth c D cA base sp n0 s0 Z C fin H locs lsA cells slots hA hL)
  have hk : W p l e R s m args below meth c H locs cells slots Z (F0 m (pc + 3) lsA (tr_ base sp (.ref r) :: st.map (tr_ base sp))) := hk
  rw [tr_ref hr2] at hk
  show W p l e R s m args below meth c H locs cells slots Z (F0 m pc lsA (tr_ base sp (.ref a) :: st.map (tr_ base sp)))
  rw [tr_ref (At_.lt hA ha)]
  exact va_get C.ex C.by C.ts h3 C.ow C.st.1 hA.1 a (he := by rw [wd_get (σ := (lay, mm)) ha, cl_o h11]) h1 f h2 (C.ts _ h7) (fun _ h9 => h9) (cl_fr hn hi hr) (C.dec h) hk
set_option maxHeartbeats 400000 in
theorem Y_putI {index ci a f n : Nat} {v : Int32} {rs : List (Option Nat)} (i : Nat) (h : (m_t M)[i]? = some (pc, .putfield index, 3)) (hp : pc + 3 = pc2) (hf : fl_ (m_y M).cls index ci f) (ha : lay[a]? = some (ci, n, rs)) (hn : f < n) (hz : fits (ty_c ci f) (.int v) = true ∧ narrow (ty_c ci f) (.int v) = .int v) (hfin : fn_ ci f) (hi : is_I (ty_c ci f) = true) (k : Y G M cap pc2 ls st (lay, uw_ mm a f v) Q) : Y G M cap pc ls (.int v :: .ref a :: st) (lay, mm) Q := by
  intro p l e R s m args below meth c D cA base sp n0 s0 Z C fin H locs lsA cells slots hA hL
  subst hp
  obtain ⟨CC, T, N, h1, h11, h2, h3, h4, h5, h6, h7⟩ := hf
  obtain ⟨CC2, T2, N2, g1, g2⟩ := hfin
  rw [h1] at g1
  cases g1
  show W p l e R s m args below meth c H locs cells slots Z (F0 m pc lsA (.int v :: tr_ base sp (.ref a) :: st.map (tr_ base sp)))
  rw [tr_ref (At_.lt hA ha)]
  refine va_put (v := (.int v)) (ty := ty_c ci f) C.ex C.by C.ts h3 (ty_c ci) h4 h5 C.ow C.st.1 hA.1 wd_D hA.2.2.1 a (he := by rw [wd_get (σ := (lay, mm)) ha, cl_o h11]) h1 f h2 (C.ts _ h7) (fun _ h9 => h9) g2 (h4 f h2) hz.2 hz.1 (by simpa using hn) (C.dec h) (fun H1 locs1 hP1 hD1 hS1 => ?_)
  rw [cl_si hi] at hP1
  rw [wd_set1 (row := upd (mm a) f v) ha (by rw [cl_o h11]), ur_w] at hP1
  exact k p l e R s m args below meth c D cA base sp n0 s0 Z C fin H1 locs1 lsA cells slots (hA.to (σ' := (lay, uw_ mm a f v)) rfl rfl hP1 hS1) hL
set_option maxHeartbeats 400000 in
theorem Y_putIF {index ci a f n : Nat} {v : Int32} {rs : List (Option Nat)} (i : Nat) (h : (m_t M)[i]? = some (pc, .putfield index, 3)) (hp : pc + 3 = pc2) (hf : fl_ (m_y M).cls index ci f) (ha : lay[a]? = some (ci, n, rs)) (hn : f < n) (hz : fits (ty_c ci f) (.int v) = true ∧ narrow (ty_c ci f) (.int v) = .int v) (hfin : ff_ (m_y M).cls ci f) (hin : (m_y M).name = "<init>") (hi : is_I (ty_c ci f) = true) (k : Y G M cap pc2 ls st (lay, uw_ mm a f v) Q) : Y G M cap pc ls (.int v :: .ref a :: st) (lay, mm) Q := by
  intro p l e R s m args below meth c D cA base sp n0 s0 Z C fin H locs lsA cells slots hA hL
  subst hp
  obtain ⟨CC, T, N, h1, h11, h2, h3, h4, h5, h6, h7⟩ := hf
  obtain ⟨CC2, T2, N2, g1, g2, g3⟩ := hfin
  rw [h1] at g1
  cases g1
  show W p l e R s m args below meth c H locs cells slots Z (F0 m pc lsA (.int v :: tr_ base sp (.ref a) :: st.map (tr_ base sp)))
  rw [tr_ref (At_.lt hA ha)]
  refine va_putF (v := (.int v)) (ty := ty_c ci f) C.ex C.by C.ts h3 (ty_c ci) h4 h5 C.ow C.st.1 hA.1 wd_D hA.2.2.1 a (he := by rw [wd_get (σ := (lay, mm)) ha, cl_o h11]) h1 f h2 (C.ts _ h7) (fun _ h9 => h9) g2 (C.nm hin) g3 (h4 f h2) hz.2 hz.1 (by simpa using hn) (C.dec h) (fun H1 locs1 hP1 hD1 hS1 => ?_)
  rw [cl_si hi] at hP1
  rw [wd_set1 (row := upd (mm a) f v) ha (by rw [cl_o h11]), ur_w] at hP1
  exact k p l e R s m args below meth c D cA base sp n0 s0 Z C fin H1 locs1 lsA cells slots (hA.to (σ' := (lay, uw_ mm a f v)) rfl rfl hP1 hS1) hL
set_option maxHeartbeats 400000 in
theorem Y_putRF {index ci a f n r : Nat} {rs : List (Option Nat)} (i : Nat) (h : (m_t M)[i]? = some (pc, .putfield index, 3)) (hp : pc + 3 = pc2) (hf : fl_ (m_y M).cls index ci f) (ha : lay[a]? = some (ci, n, rs)) (hn : f < n) (hrl : f < rs.length) (hr2 : r < 1000000) (ho : (∃ n, ty_c ci f = .object n) ∨ ∃ t, ty_c ci f = .array t) (hfin : ff_ (m_y M).cls ci f) (hin : (m_y M).name = "<init>") (hi : is_I (ty_c ci f) = false) (k : Y G M cap pc2 ls st (lay.set a (ci, n, rs.set f (some r)), mm) Q) : Y G M cap pc ls (.ref r :: .ref a :: st) (lay, mm) Q := by
  intro p l e R s m args below meth c D cA base sp n0 s0 Z C fin H locs lsA cells slots hA hL
  subst hp
  obtain ⟨CC, T, N, h1, h11, h2, h3, h4, h5, h6, h7⟩ := hf
  obtain ⟨CC2, T2, N2, g1, g2, g3⟩ := hfin
  rw [h1] at g1
  cases g1
  show W p l e R s m args below meth c H locs cells slots Z (F0 m pc lsA (tr_ base sp (.ref r) :: tr_ base sp (.ref a) :: st.map (tr_ base sp)))
  rw [tr_ref (At_.lt hA ha), tr_ref hr2]
  refine va_putF (v := (.ref (base + r))) (ty := ty_c ci f) C.ex C.by C.ts h3 (ty_c ci) h4 h5 C.ow C.st.1 hA.1 wd_D hA.2.2.1 a (he := by rw [wd_get (σ := (lay, mm)) ha, cl_o h11]) h1 f h2 (C.ts _ h7) (fun _ h9 => h9) g2 (C.nm hin) g3 (h4 f h2) (by rcases ho with ⟨n, ho⟩ | ⟨n, ho⟩ <;> rw [ho] <;> rfl) (by rcases ho with ⟨n, ho⟩ | ⟨n, ho⟩ <;> rw [ho] <;> rfl) (by simpa using hn) (C.dec h) (fun H1 locs1 hP1 hD1 hS1 => ?_)
  rw [cl_sr hi hrl] at hP1
  rw [wd_set (e' := (ci, n, rs.set f (some r))) (row := mm a) ha (by rw [cl_o h11])] at hP1
  have e1 : ur_ mm a (mm a) = mm := by
    funext b
    by_cases hb : b = a
    · subst hb; simp [ur_]
    · simp [ur_, hb]
  rw [e1] at hP1
  exact k p l e R s m args below meth c D cA base sp n0 s0 Z C fin H1 locs1 lsA cells slots (hA.to (σ' := (lay.set a (ci, n, rs.set f (some r)), mm)) (by simp) (sl_set ha rfl) hP1 hS1) hL
set_option maxHeartbeats 400000 in
theorem Y_iald {a n j : Nat} {rs : List (Option Nat)} {x : Int32} (i : Nat) (h : (m_t M)[i]? = some (pc, .iaload, 1)) (hp : pc + 1 = pc2) (ha : lay[a]? = some (12, n, rs)) (hx : x = nI j) (hj : j < n) (hn : n < 2 ^ 31) (k : Y G M cap pc2 ls (.int (mm a j) :: st) (lay, mm) Q) : Y G M cap pc ls (.int x :: .ref a :: st) (lay, mm) Q := by
  intro p l e R s m args below meth c D cA base sp n0 s0 Z C fin H locs lsA cells slots hA hL
  subst hp; subst hx
  have hk := (k p l e R s m args below meth c D cA base sp n0 s0 Z C fin H locs lsA cells slots hA hL)
  have hk : W p l e R s m args below meth c H locs cells slots Z (F0 m (pc + 1) lsA (.int (mm a j) :: st.map (tr_ base sp))) := hk
  show W p l e R s m args below meth c H locs cells slots Z (F0 m pc lsA (.int (nI j) :: tr_ base sp (.ref a) :: st.map (tr_ base sp)))
  rw [tr_ref (At_.lt hA ha)]
  refine va_iald (n := n) (f := mm a) C.ex C.by C.st.1 hA.1 a 1 (cA := cA 12) (by rw [wd_get (σ := (lay, mm)) ha]; rfl) rfl (vp_in_nI hj hn) (C.dec h) ?_
  rw [nI_clamp (Nat.lt_trans hj hn)]
  exact hk
set_option maxHeartbeats 400000 in
theorem Y_bald {a n j : Nat} {rs : List (Option Nat)} {x : Int32} (i : Nat) (h : (m_t M)[i]? = some (pc, .baload, 1)) (hp : pc + 1 = pc2) (ha : lay[a]? = some (11, n, rs)) (hx : x = nI j) (hj : j < n) (hn : n < 2 ^ 31) (k : Y G M cap pc2 ls (.int (mm a j) :: st) (lay, mm) Q) : Y G M cap pc ls (.int x :: .ref a :: st) (lay, mm) Q := by
  intro p l e R s m args below meth c D cA base sp n0 s0 Z C fin H locs lsA cells slots hA hL
  subst hp; subst hx
  have hk := (k p l e R s m args below meth c D cA base sp n0 s0 Z C fin H locs lsA cells slots hA hL)
  have hk : W p l e R s m args below meth c H locs cells slots Z (F0 m (pc + 1) lsA (.int (mm a j) :: st.map (tr_ base sp))) := hk
  show W p l e R s m args below meth c H locs cells slots Z (F0 m pc lsA (.int (nI j) :: tr_ base sp (.ref a) :: st.map (tr_ base sp)))
  rw [tr_ref (At_.lt hA ha)]
  refine va_bald (n := n) (f := mm a) C.ex C.by C.st.1 hA.1 a 0 (cA := cA 11) (by rw [wd_get (σ := (lay, mm)) ha]; rfl) rfl (vp_in_nI hj hn) (C.dec h) ?_
  rw [nI_clamp (Nat.lt_trans hj hn)]
  exact hk
set_option maxHeartbeats 400000 in
theorem Y_zald {a n j : Nat} {rs : List (Option Nat)} {x : Int32} (i : Nat) (h : (m_t M)[i]? = some (pc, .baload, 1)) (hp : pc + 1 = pc2) (ha : lay[a]? = some (13, n, rs)) (hx : x = nI j) (hj : j < n) (hn : n < 2 ^ 31) (k : Y G M cap pc2 ls (.int (mm a j) :: st) (lay, mm) Q) : Y G M cap pc ls (.int x :: .ref a :: st) (lay, mm) Q := by
  intro p l e R s m args below meth c D cA base sp n0 s0 Z C fin H locs lsA cells slots hA hL
  subst hp; subst hx
  have hk := (k p l e R s m args below meth c D cA base sp n0 s0 Z C fin H locs lsA cells slots hA hL)
  have hk : W p l e R s m args below meth c H locs cells slots Z (F0 m (pc + 1) lsA (.int (mm a j) :: st.map (tr_ base sp))) := hk
  show W p l e R s m args below meth c H locs cells slots Z (F0 m pc lsA (.int (nI j) :: tr_ base sp (.ref a) :: st.map (tr_ base sp)))
  rw [tr_ref (At_.lt hA ha)]
  refine va_zald (n := n) (f := mm a) C.ex C.by C.st.1 hA.1 a 2 (cA := cA 13) (by rw [wd_get (σ := (lay, mm)) ha]; rfl) rfl (vp_in_nI hj hn) (C.dec h) ?_
  rw [nI_clamp (Nat.lt_trans hj hn)]
  exact hk
set_option maxHeartbeats 400000 in
theorem Y_iast {a n j : Nat} {rs : List (Option Nat)} {x v w : Int32} (i : Nat) (h : (m_t M)[i]? = some (pc, .iastore, 1)) (hp : pc + 1 = pc2) (ha : lay[a]? = some (12, n, rs)) (hx : x = nI j) (hj : j < n) (hn : n < 2 ^ 31) (hw : v = w) (k : Y G M cap pc2 ls st (lay, uw_ mm a j w) Q) : Y G M cap pc ls (.int v :: .int x :: .ref a :: st) (lay, mm) Q := by
  intro p l e R s m args below meth c D cA base sp n0 s0 Z C fin H locs lsA cells slots hA hL
  subst hp; subst hx; subst hw
  show W p l e R s m args below meth c H locs cells slots Z (F0 m pc lsA (.int v :: .int (nI j) :: tr_ base sp (.ref a) :: st.map (tr_ base sp)))
  rw [tr_ref (At_.lt hA ha)]
  refine va_iast (n := n) (f := mm a) C.ex C.by C.st.1 hA.1 wd_D hA.2.2.1 a 1 (cA := cA 12) (by rw [wd_get (σ := (lay, mm)) ha]; rfl) rfl (vp_in_nI hj hn) (C.dec h) (fun H1 locs1 hP1 hD1 hS1 => ?_)
  rw [nI_clamp (Nat.lt_trans hj hn), wd_set1 (row := upd (mm a) j v) ha (by rfl), ur_w] at hP1
  exact k p l e R s m args below meth c D cA base sp n0 s0 Z C fin H1 locs1 lsA cells slots (hA.to (σ' := (lay, uw_ mm a j v)) rfl rfl hP1 hS1) hL
set_option maxHeartbeats 400000 in
theorem Y_bast {a n j : Nat} {rs : List (Option Nat)} {x v w : Int32} (i : Nat) (h : (m_t M)[i]? = some (pc, .bastore, 1)) (hp : pc + 1 = pc2) (ha : lay[a]? = some (11, n, rs)) (hx : x = nI j) (hj : j < n) (hn : n < 2 ^ 31) (hw : (vp_nar .byte v) = w) (k : Y G M cap pc2 ls st (lay, uw_ mm a j w) Q) : Y G M cap pc ls (.int v :: .int x :: .ref a :: st) (lay, mm) Q := by
  intro p l e R s m args below meth c D cA base sp n0 s0 Z C fin H locs lsA cells slots hA hL
  subst hp; subst hx; subst hw
  show W p l e R s m args below meth c H locs cells slots Z (F0 m pc lsA (.int v :: .int (nI j) :: tr_ base sp (.ref a) :: st.map (tr_ base sp)))
  rw [tr_ref (At_.lt hA ha)]
  refine va_bast (n := n) (f := mm a) C.ex C.by C.st.1 hA.1 wd_D hA.2.2.1 a 0 (cA := cA 11) (by rw [wd_get (σ := (lay, mm)) ha]; rfl) rfl (vp_in_nI hj hn) (C.dec h) (fun H1 locs1 hP1 hD1 hS1 => ?_)
  rw [nI_clamp (Nat.lt_trans hj hn), wd_set1 (row := upd (mm a) j (vp_nar .byte v)) ha (by rfl), ur_w] at hP1
  exact k p l e R s m args below meth c D cA base sp n0 s0 Z C fin H1 locs1 lsA cells slots (hA.to (σ' := (lay, uw_ mm a j (vp_nar .byte v))) rfl rfl hP1 hS1) hL
set_option maxHeartbeats 400000 in
theorem Y_zast {a n j : Nat} {rs : List (Option Nat)} {x v w : Int32} (i : Nat) (h : (m_t M)[i]? = some (pc, .bastore, 1)) (hp : pc + 1 = pc2) (ha : lay[a]? = some (13, n, rs)) (hx : x = nI j) (hj : j < n) (hn : n < 2 ^ 31) (hw : (vp_nar .boolean v) = w) (k : Y G M cap pc2 ls st (lay, uw_ mm a j w) Q) : Y G M cap pc ls (.int v :: .int x :: .ref a :: st) (lay, mm) Q := by
  intro p l e R s m args below meth c D cA base sp n0 s0 Z C fin H locs lsA cells slots hA hL
  subst hp; subst hx; subst hw
  show W p l e R s m args below meth c H locs cells slots Z (F0 m pc lsA (.int v :: .int (nI j) :: tr_ base sp (.ref a) :: st.map (tr_ base sp)))
  rw [tr_ref (At_.lt hA ha)]
  refine va_zast (n := n) (f := mm a) C.ex C.by C.st.1 hA.1 wd_D hA.2.2.1 a 2 (cA := cA 13) (by rw [wd_get (σ := (lay, mm)) ha]; rfl) rfl (vp_in_nI hj hn) (C.dec h) (fun H1 locs1 hP1 hD1 hS1 => ?_)
  rw [nI_clamp (Nat.lt_trans hj hn), wd_set1 (row := upd (mm a) j (vp_nar .boolean v)) ha (by rfl), ur_w] at hP1
  exact k p l e R s m args below meth c D cA base sp n0 s0 Z C fin H1 locs1 lsA cells slots (hA.to (σ' := (lay, uw_ mm a j (vp_nar .boolean v))) rfl rfl hP1 hS1) hL
set_option maxHeartbeats 400000 in
theorem cl_q {cA : Nat → ClassId} {base kd n : Nat} {rs : List (Option Nat)} {row : Nat → Int32} (h : 14 ≤ kd) : cl_e cA base (kd, n, rs) row = .inl (cA kd, n, .inr (.inr (.inr (.inr (fun k => (rs.getD k none).map (fun r => base + r)))))) := by
  have h1 : ¬ kd < 11 := by omega
  have h2 : ¬ kd < 14 := by omega
  simp [cl_e, h1, h2]
set_option maxHeartbeats 400000 in
theorem Y_aald {a n j r kd : Nat} {CC : String} {rs : List (Option Nat)} {x : Int32} (i : Nat) (h : (m_t M)[i]? = some (pc, .aaload, 1)) (hp : pc + 1 = pc2) (ha : lay[a]? = some (kd, n, rs)) (hkd : 14 ≤ kd) (ht : ∀ cA : Nat → ClassId, (ty_s cA)[kd - 11]? = some (cA kd, .object CC)) (hx : x = nI j) (hj : j < n) (hn : n < 2 ^ 31) (hr : rs.getD j none = some r) (hr2 : r < 1000000) (k : Y G M cap pc2 ls (.ref r :: st) (lay, mm) Q) : Y G M cap pc ls (.int x :: .ref a :: st) (lay, mm) Q := by
  intro p l e R s m args below meth c D cA base sp n0 s0 Z C fin H locs lsA cells slots hA hL
  subst hp; subst hx
  have hk := (k p l e R s m args below meth c D cA base sp n0 s0 Z C fin H locs lsA cells slots hA hL)
  have hk : W p l e R s m args below meth c H locs cells slots Z (F0 m (pc + 1) lsA (tr_ base sp (.ref r) :: st.map (tr_ base sp))) := hk
  rw [tr_ref hr2] at hk
  show W p l e R s m args below meth c H locs cells slots Z (F0 m pc lsA (.int (nI j) :: tr_ base sp (.ref a) :: st.map (tr_ base sp)))
  rw [tr_ref (At_.lt hA ha)]
  refine va_aldq (n := n) C.ex C.by C.st.1 hA.1 a (kd - 11) (cA := cA kd) (by rw [wd_get (σ := (lay, mm)) ha, cl_q hkd]) (ht cA) (vp_in_nI hj hn) (C.dec h) ?_
  rw [nI_clamp (Nat.lt_trans hj hn), hr]
  exact hk
set_option maxHeartbeats 400000 in
theorem Y_aast {a n j r kd ci cn : Nat} {qq : vw_C} {rs crs : List (Option Nat)} {x : Int32} (i : Nat) (h : (m_t M)[i]? = some (pc, .aastore, 1)) (hp : pc + 1 = pc2) (ha : lay[a]? = some (kd, n, rs)) (hkd : 14 ≤ kd) (hv : lay[r]? = some (ci, cn, crs)) (hci : ci < 11) (hc : vwCl[ci]? = some qq) (ht : ∀ cA : Nat → ClassId, (ty_s cA)[kd - 11]? = some (cA kd, .object qq.1)) (hx : x = nI j) (hj : j < n) (hn : n < 2 ^ 31) (hjr : j < rs.length) (k : Y G M cap pc2 ls st (lay.set a (kd, n, rs.set j (some r)), mm) Q) : Y G M cap pc ls (.ref r :: .int x :: .ref a :: st) (lay, mm) Q := by
  intro p l e R s m args below meth c D cA base sp n0 s0 Z C fin H locs lsA cells slots hA hL
  subst hp; subst hx
  show W p l e R s m args below meth c H locs cells slots Z (F0 m pc lsA (tr_ base sp (.ref r) :: .int (nI j) :: tr_ base sp (.ref a) :: st.map (tr_ base sp)))
  rw [tr_ref (At_.lt hA ha), tr_ref (At_.lt hA hv)]
  refine va_astq (n := n) C.ex C.by C.st.1 hA.1 wd_D hA.2.2.1 a (kd - 11) r ci (cA := cA kd) (by rw [wd_get (σ := (lay, mm)) ha, cl_q hkd]) (ht cA) (hv := by rw [wd_get (σ := (lay, mm)) hv, cl_o hci]) hc (vp_in_nI hj hn) (C.dec h) (fun H1 locs1 hP1 hD1 hS1 => ?_)
  rw [nI_clamp (Nat.lt_trans hj hn)] at hP1
  have e2 : va_up (fun k => (rs.getD k none).map (fun r => base + r)) j (some (base + r)) = fun k => ((rs.set j (some r)).getD k none).map (fun r => base + r) := by
    funext q
    by_cases hq : q = j
    · subst hq
      simp [va_up, hjr]
    · simp [va_up, hq, List.getElem?_set, Ne.symm hq]
  rw [e2, wd_set (e' := (kd, n, rs.set j (some r))) (row := mm a) ha (by rw [cl_q hkd])] at hP1
  have e1 : ur_ mm a (mm a) = mm := by
    funext b
    by_cases hb : b = a
    · subst hb; simp [ur_]
    · simp [ur_, hb]
  rw [e1] at hP1
  exact k p l e R s m args below meth c D cA base sp n0 s0 Z C fin H1 locs1 lsA cells slots (hA.to (σ' := (lay.set a (kd, n, rs.set j (some r)), mm)) (by simp) (sl_set ha rfl) hP1 hS1) hL
set_option maxHeartbeats 400000 in
theorem Y_alen_b {a n : Nat} {rs : List (Option Nat)} {v : Int32} (i : Nat) (h : (m_t M)[i]? = some (pc, .arraylength, 1)) (hp : pc + 1 = pc2) (ha : lay[a]? = some (11, n, rs)) (hv : nI n = v) (k : Y G M cap pc2 ls (.int v :: st) (lay, mm) Q) : Y G M cap pc ls (.ref a :: st) (lay, mm) Q := by
  intro p l e R s m args below meth c D cA base sp n0 s0 Z C fin H locs lsA cells slots hA hL
  subst hp
  have hk := (k p l e R s m args below meth c D cA base sp n0 s0 Z C fin H locs lsA cells slots hA hL)
  show W p l e R s m args below meth c H locs cells slots Z (F0 m pc lsA (tr_ base sp (.ref a) :: st.map (tr_ base sp)))
  rw [tr_ref (At_.lt hA ha)]
  exact va_alen (x := (n, .inl (mm a))) (ty := .byte) C.ex C.by C.st.1 hA.1 a 0 (cA := cA 11) (by rw [wd_get (σ := (lay, mm)) ha]; rfl) rfl hv (C.dec h) hk
set_option maxHeartbeats 400000 in
theorem Y_alen_i {a n : Nat} {rs : List (Option Nat)} {v : Int32} (i : Nat) (h : (m_t M)[i]? = some (pc, .arraylength, 1)) (hp : pc + 1 = pc2) (ha : lay[a]? = some (12, n, rs)) (hv : nI n = v) (k : Y G M cap pc2 ls (.int v :: st) (lay, mm) Q) : Y G M cap pc ls (.ref a :: st) (lay, mm) Q := by
  intro p l e R s m args below meth c D cA base sp n0 s0 Z C fin H locs lsA cells slots hA hL
  subst hp
  have hk := (k p l e R s m args below meth c D cA base sp n0 s0 Z C fin H locs lsA cells slots hA hL)
  show W p l e R s m args below meth c H locs cells slots Z (F0 m pc lsA (tr_ base sp (.ref a) :: st.map (tr_ base sp)))
  rw [tr_ref (At_.lt hA ha)]
  exact va_alen (x := (n, .inl (mm a))) (ty := .int) C.ex C.by C.st.1 hA.1 a 1 (cA := cA 12) (by rw [wd_get (σ := (lay, mm)) ha]; rfl) rfl hv (C.dec h) hk
set_option maxHeartbeats 400000 in
theorem Y_alen_z {a n : Nat} {rs : List (Option Nat)} {v : Int32} (i : Nat) (h : (m_t M)[i]? = some (pc, .arraylength, 1)) (hp : pc + 1 = pc2) (ha : lay[a]? = some (13, n, rs)) (hv : nI n = v) (k : Y G M cap pc2 ls (.int v :: st) (lay, mm) Q) : Y G M cap pc ls (.ref a :: st) (lay, mm) Q := by
  intro p l e R s m args below meth c D cA base sp n0 s0 Z C fin H locs lsA cells slots hA hL
  subst hp
  have hk := (k p l e R s m args below meth c D cA base sp n0 s0 Z C fin H locs lsA cells slots hA hL)
  show W p l e R s m args below meth c H locs cells slots Z (F0 m pc lsA (tr_ base sp (.ref a) :: st.map (tr_ base sp)))
  rw [tr_ref (At_.lt hA ha)]
  exact va_alen (x := (n, .inl (mm a))) (ty := .boolean) C.ex C.by C.st.1 hA.1 a 2 (cA := cA 13) (by rw [wd_get (σ := (lay, mm)) ha]; rfl) rfl hv (C.dec h) hk
set_option maxHeartbeats 400000 in
theorem Y_sald {j z : Nat} {x : Int32} (i : Nat) (h : (m_t M)[i]? = some (pc, .iaload, 1)) (hp : pc + 1 = pc2) (hz : z < 2) (hx : x = nI j) (hj : j < o_N G z) (hn : o_N G z < 2 ^ 31) (k : Y G M cap pc2 ls (.int (o_F G z j) :: st) σ Q) : Y G M cap pc ls (.int x :: .ref (1000000 + z) :: st) σ Q := by
  intro p l e R s m args below meth c D cA base sp n0 s0 Z C fin H locs lsA cells slots hA hL
  subst hp; subst hx
  have hk := (k p l e R s m args below meth c D cA base sp n0 s0 Z C fin H locs lsA cells slots hA hL)
  have e0 : tr_ base sp (.ref (1000000 + z)) = .ref (sp z) := by
    show Value.ref (if 1000000 + z < 1000000 then base + (1000000 + z) else sp (1000000 + z - 1000000)) = _
    rw [if_neg (by omega), Nat.add_sub_cancel_left]
  show W p l e R s m args below meth c H locs cells slots Z (F0 m pc lsA (.int (nI j) :: tr_ base sp (.ref (1000000 + z)) :: st.map (tr_ base sp)))
  rw [e0]
  exact va_ti C.ex C.by (C.st.2.2.2.1 z hz) hA.2.2.1 (vp_in_nI hj hn) (by rw [nI_clamp (Nat.lt_trans hj hn)]; rfl) (C.dec h) hk
set_option maxHeartbeats 400000 in
theorem Y_slen {z : Nat} {v : Int32} (i : Nat) (h : (m_t M)[i]? = some (pc, .arraylength, 1)) (hp : pc + 1 = pc2) (hz : z < 2) (hv : nI (o_N G z) = v) (k : Y G M cap pc2 ls (.int v :: st) σ Q) : Y G M cap pc ls (.ref (1000000 + z) :: st) σ Q := by
  intro p l e R s m args below meth c D cA base sp n0 s0 Z C fin H locs lsA cells slots hA hL
  subst hp
  have hk := (k p l e R s m args below meth c D cA base sp n0 s0 Z C fin H locs lsA cells slots hA hL)
  have e0 : tr_ base sp (.ref (1000000 + z)) = .ref (sp z) := by
    show Value.ref (if 1000000 + z < 1000000 then base + (1000000 + z) else sp (1000000 + z - 1000000)) = _
    rw [if_neg (by omega), Nat.add_sub_cancel_left]
  show W p l e R s m args below meth c H locs cells slots Z (F0 m pc lsA (tr_ base sp (.ref (1000000 + z)) :: st.map (tr_ base sp)))
  rw [e0]
  exact va_tlen C.ex C.by (C.st.2.2.2.1 z hz) hA.2.2.1 hv (C.dec h) hk
set_option maxHeartbeats 400000 in
theorem Y_gets {index : Nat} (i : Nat) (h : (m_t M)[i]? = some (pc, .getstatic index, 3)) (hp : pc + 3 = pc2) (hw : Cond.fieldLink (m_y M).cls index "GongHouse" "KIND_ABOVE" "[I" ∈ Tb) (k : Y G M cap pc2 ls (.ref 1000001 :: st) σ Q) : Y G M cap pc ls st σ Q := by
  intro p l e R s m args below meth c D cA base sp n0 s0 Z C fin H locs lsA cells slots hA hL
  subst hp
  have hk := (k p l e R s m args below meth c D cA base sp n0 s0 Z C fin H locs lsA cells slots hA hL)
  exact va_gets C.ex C.by C.st.2.2.2.2 hA.2.2.1 C.ow (C.ts _ hw) (fun _ h9 => h9) (C.dec h) hk
end Y2
