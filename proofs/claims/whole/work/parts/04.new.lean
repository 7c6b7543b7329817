/-! new cells -/
set_option maxHeartbeats 400000 in
theorem wd_push {cA : Nat → ClassId} {base : Nat} {lay : Ly} {mm : Mm} {e : Nat × Nat × List (Option Nat)} {row : Nat → Int32} : wd_ cA base (lay ++ [e], ur_ mm lay.length row) = wd_ cA base (lay, mm) ++ [(base + lay.length, cl_e cA base e row)] := by
  have h1 : lay.mapIdx (fun a e => (base + a, cl_e cA base e (ur_ mm lay.length row a))) = lay.mapIdx (fun a e => (base + a, cl_e cA base e (mm a))) := by
    apply List.ext_getElem?
    intro i
    rw [List.getElem?_mapIdx, List.getElem?_mapIdx]
    by_cases hi : i < lay.length
    · have hne : ¬ i = lay.length := by omega
      simp [ur_, hne]
    · rw [List.getElem?_eq_none (by omega)]
      rfl
  simp only [wd_, List.mapIdx_append]
  rw [h1]
  simp [ur_]
set_option maxHeartbeats 400000 in
theorem sl_push {lay : Ly} {e : Nat × Nat × List (Option Nat)} : sl_ (lay ++ [e]) = sl_ lay + e.2.1 := by simp [sl_]
set_option maxHeartbeats 400000 in
theorem q_is {D : va_G} {cA : Nat → ClassId} {base : Nat} {σ : Sg} {q : Nat} {E : va_E} {H1 : Heap} (hP : va_P D vwCl (wd_ cA base σ ++ [(q, E)]) H1) (hD : va_D (fun q => base ≤ q) (wd_ cA base σ ++ [(q, E)])) (hz : H1.size ≤ base + σ.1.length + 1) : q = base + σ.1.length := by
  have hlen : (wd_ cA base σ).length = σ.1.length := by simp [wd_]
  have hl : (wd_ cA base σ ++ [(q, E)])[σ.1.length]? = some (q, E) := by
    rw [List.getElem?_append_right (by omega), hlen]; simp
  have h1 : q < H1.size := (hP _ _ hl).lt
  have h2 : base ≤ q := hD.2 _ _ hl
  rcases Nat.lt_or_ge (q - base) σ.1.length with h3 | h3
  · exfalso
    have h4 : (wd_ cA base σ ++ [(q, E)])[q - base]? = some (base + (q - base), cl_e cA base (σ.1[q - base]) (σ.2 (q - base))) := by
      rw [List.getElem?_append_left (by omega)]
      exact wd_get (List.getElem?_eq_getElem h3)
    have h5 := hD.1 _ _ _ _ h4 hl (by show base + (q - base) = q; omega)
    omega
  · omega
set_option maxHeartbeats 400000 in
theorem W_siz {p : Program} {l : Launch} {e : Env} {R : Room} {s : State} {m : MethodId} {args : Array Value} {below : List Frame} {meth : Method} {c : Code} {H : Heap} {locs : List Loc} {cells slots : Nat} {Z : State → Prop} {g : JFrame} (k : H.size ≤ s.heap.size + cells → W p l e R s m args below meth c H locs cells slots Z g) : W p l e R s m args below meth c H locs cells slots Z g :=
  fun T hT X => k (by rw [← hT]; exact X.heapSize) T hT X
set_option maxHeartbeats 400000 in
theorem At_.size {R : Room} {s : State} {D : va_G} {cA : Nat → ClassId} {base n0 s0 : Nat} {σ : Sg} {H : Heap} {locs : List Loc} {cells slots : Nat} (h : At_ R s D cA base n0 s0 σ H locs cells slots) (hs : s.heap.size = base + n0) (hz : H.size ≤ s.heap.size + cells) : H.size = base + σ.1.length := by
  have h1 := h.2.2.2.1
  rcases Nat.eq_zero_or_pos σ.1.length with h0 | h0
  · have h2 := h.2.2.1.1
    omega
  · have h3 : (wd_ cA base σ)[σ.1.length - 1]? = some (base + (σ.1.length - 1), cl_e cA base (σ.1[σ.1.length - 1]) (σ.2 (σ.1.length - 1))) := wd_get (List.getElem?_eq_getElem (by omega))
    have h4 := (h.1 _ _ h3).lt
    have h4 : base + (σ.1.length - 1) < H.size := h4
    omega
/-- the entry 'index' of 'own' names class number ci of N fields -/
def nc_ (own : String) (index ci N : Nat) : Prop := ∃ (C : String) (T : u_T), vwCl[ci]? = some (C, T, N) ∧ ci < 11 ∧ (∀ w ∈ u_ws C T N, w ∈ Tb) ∧ (∀ k, k < N → parseFieldDescriptor (T k).2.2.1 = some (ty_c ci k)) ∧ (∀ k, k < N → defaultValue (ty_c ci k) = if is_I (ty_c ci k) = true then Value.int 0 else .null) ∧ Cond.classLink own index C ∈ Tb ∧ Cond.instantiable C N ∈ Tb ∧ Cond.initialized C ∈ Tb
section Y3
variable {G : Nat × (Nat → Int32)} {M : Mi} {cap : Nat × Nat} {pc pc2 : Nat} {ls ls2 : List (Option Value)} {st : List Value} {σ : Sg} {lay : Ly} {mm : Mm} {Q : Option Value → Sg → Prop}
set_option maxHeartbeats 400000 in
theorem Y_new {index ci N : Nat} (i : Nat) (h : (m_t M)[i]? = some (pc, .new index, 3)) (hp : pc + 3 = pc2) (hn : nc_ (m_y M).cls index ci N) (hc1 : lay.length + 1 ≤ cap.1) (hc2 : sl_ lay + N ≤ cap.2) (hln : lay.length + 1 ≤ 1000000) (k : Y G M cap pc2 ls (.ref lay.length :: st) (lay ++ [(ci, N, List.replicate N none)], ur_ mm lay.length (fun _ => 0)) Q) : Y G M cap pc ls st (lay, mm) Q := by
  intro p l e R s m args below meth c D cA base sp n0 s0 Z C fin H locs lsA cells slots hA hL
  subst hp
  obtain ⟨CC, T, h1, h11, h3, h4, h5, h6, h7, h8⟩ := hn
  have hcc := C.rm.2.2.1
  have hcs := C.rm.2.2.2
  have e1 : cells + n0 = lay.length := hA.2.2.2.1
  have e2 : slots + s0 = sl_ lay := hA.2.2.2.2.1
  refine va_new (fs := (List.range N).map (fun k => if is_I (ty_c ci k) = true then Value.int 0 else va_rf (((List.replicate N none).getD k none).map (fun r => base + r)))) C.ex C.by C.ts h3 (ty_c ci) h4 C.ow (C.ts _ h6) (C.ts _ h7) (C.ts _ h8) C.st.1 hA.1 wd_D hA.2.2.1 (fun q hq => ?_) h1 (fun j hj => ?_) (by omega) (by omega) (C.dec h) (fun q H1 hP1 hD1 hS1 => ?_)
  · show base ≤ q
    have := C.sz
    omega
  · rw [h5 j hj]
    simp [vp_V, hj, va_rf]
  · refine W_siz (fun hz => ?_)
    have hq := q_is hP1 hD1 (by have := C.sz; simp only; omega)
    subst hq
    have hP2 : va_P D vwCl (wd_ cA base (lay ++ [(ci, N, List.replicate N none)], ur_ mm lay.length (fun _ => 0))) H1 := by
      rw [wd_push, cl_o h11]
      exact hP1
    have hk := k p l e R s m args below meth c D cA base sp n0 s0 Z C fin H1 locs lsA (cells + 1) (slots + N) ⟨hP2, by simpa using hln, hS1, by simp; omega, by show _ = sl_ (lay ++ [(ci, N, List.replicate N none)]); rw [sl_push]; simp only; omega, by omega, by omega⟩ hL
    have hk : W p l e R s m args below meth c H1 locs (cells + 1) (slots + N) Z (F0 m (pc + 3) lsA (tr_ base sp (.ref lay.length) :: st.map (tr_ base sp))) := hk
    rw [tr_ref (by omega)] at hk
    exact hk
set_option maxHeartbeats 400000 in
theorem Y_newa_b {n : Nat} {x : Int32} (i : Nat) (h : (m_t M)[i]? = some (pc, .newarray .byte, 2)) (hp : pc + 2 = pc2) (hw : Cond.arrayClass .byte ∈ Tb) (hx : x = nI n) (hnn : n ≤ 100000) (hc1 : lay.length + 1 ≤ cap.1) (hc2 : sl_ lay + n ≤ cap.2) (hln : lay.length + 1 ≤ 1000000) (k : Y G M cap pc2 ls (.ref lay.length :: st) (lay ++ [(11, n, [])], ur_ mm lay.length (fun _ => 0)) Q) : Y G M cap pc ls (.int x :: st) (lay, mm) Q := by
  intro p l e R s m args below meth c D cA base sp n0 s0 Z C fin H locs lsA cells slots hA hL
  subst hp; subst hx
  have hcc := C.rm.2.2.1
  have hcs := C.rm.2.2.2
  have e1 : cells + n0 = lay.length := hA.2.2.2.1
  have e2 : slots + s0 = sl_ lay := hA.2.2.2.2.1
  refine va_newa (ty := .byte) (a0 := (n, .inl (fun _ => 0))) (N' := n) C.ex C.by (atype := .byte) (C.ts _ hw) rfl C.st.1 hA.1 wd_D hA.2.2.1 (fun q hq => ?_) (fun _ => rfl) (nI_pos (by omega)) (nI_clamp (by omega)) (by show n * _ ≤ _; simp only [componentBytes]; omega) (by omega) (by omega) (C.dec h) (fun q cB H1 hK1 hP1 hD1 hS1 => ?_)
  · show base ≤ q
    have := C.sz
    omega
  · refine W_siz (fun hz => ?_)
    have hq := q_is hP1 hD1 (by have := C.sz; simp only; omega)
    subst hq
    have f1 : s.vm.findClass ("[" ++ (FieldType.toString .byte)) = some cB := (hK1.2 7 (cB, .byte) rfl).2
    have f2 : s.vm.findClass ("[" ++ (FieldType.toString .byte)) = some (cA 11) := (C.st.1.2 0 (cA 11, .byte) rfl).2
    have hB : cB = cA 11 := Option.some.inj (f1.symm.trans f2)
    subst hB
    have hP2 : va_P D vwCl (wd_ cA base (lay ++ [(11, n, [])], ur_ mm lay.length (fun _ => 0))) H1 := by
      rw [wd_push]
      exact hP1
    have hk := k p l e R s m args below meth c D cA base sp n0 s0 Z C fin H1 locs lsA (cells + 1) (slots + n) ⟨hP2, by simpa using hln, hS1, by simp; omega, by show _ = sl_ (lay ++ [(11, n, [])]); rw [sl_push]; simp only; omega, by omega, by omega⟩ hL
    have hk : W p l e R s m args below meth c H1 locs (cells + 1) (slots + n) Z (F0 m (pc + 2) lsA (tr_ base sp (.ref lay.length) :: st.map (tr_ base sp))) := hk
    rw [tr_ref (by omega)] at hk
    exact hk
set_option maxHeartbeats 400000 in
theorem Y_newa_i {n : Nat} {x : Int32} (i : Nat) (h : (m_t M)[i]? = some (pc, .newarray .int, 2)) (hp : pc + 2 = pc2) (hw : Cond.arrayClass .int ∈ Tb) (hx : x = nI n) (hnn : n ≤ 100000) (hc1 : lay.length + 1 ≤ cap.1) (hc2 : sl_ lay + n ≤ cap.2) (hln : lay.length + 1 ≤ 1000000) (k : Y G M cap pc2 ls (.ref lay.length :: st) (lay ++ [(12, n, [])], ur_ mm lay.length (fun _ => 0)) Q) : Y G M cap pc ls (.int x :: st) (lay, mm) Q := by
  intro p l e R s m args below meth c D cA base sp n0 s0 Z C fin H locs lsA cells slots hA hL
  subst hp; subst hx
  have hcc := C.rm.2.2.1
  have hcs := C.rm.2.2.2
  have e1 : cells + n0 = lay.length := hA.2.2.2.1
  have e2 : slots + s0 = sl_ lay := hA.2.2.2.2.1
  refine va_newa (ty := .int) (a0 := (n, .inl (fun _ => 0))) (N' := n) C.ex C.by (atype := .int) (C.ts _ hw) rfl C.st.1 hA.1 wd_D hA.2.2.1 (fun q hq => ?_) (fun _ => rfl) (nI_pos (by omega)) (nI_clamp (by omega)) (by show n * _ ≤ _; simp only [componentBytes]; omega) (by omega) (by omega) (C.dec h) (fun q cB H1 hK1 hP1 hD1 hS1 => ?_)
  · show base ≤ q
    have := C.sz
    omega
  · refine W_siz (fun hz => ?_)
    have hq := q_is hP1 hD1 (by have := C.sz; simp only; omega)
    subst hq
    have f1 : s.vm.findClass ("[" ++ (FieldType.toString .int)) = some cB := (hK1.2 7 (cB, .int) rfl).2
    have f2 : s.vm.findClass ("[" ++ (FieldType.toString .int)) = some (cA 12) := (C.st.1.2 1 (cA 12, .int) rfl).2
    have hB : cB = cA 12 := Option.some.inj (f1.symm.trans f2)
    subst hB
    have hP2 : va_P D vwCl (wd_ cA base (lay ++ [(12, n, [])], ur_ mm lay.length (fun _ => 0))) H1 := by
      rw [wd_push]
      exact hP1
    have hk := k p l e R s m args below meth c D cA base sp n0 s0 Z C fin H1 locs lsA (cells + 1) (slots + n) ⟨hP2, by simpa using hln, hS1, by simp; omega, by show _ = sl_ (lay ++ [(12, n, [])]); rw [sl_push]; simp only; omega, by omega, by omega⟩ hL
    have hk : W p l e R s m args below meth c H1 locs (cells + 1) (slots + n) Z (F0 m (pc + 2) lsA (tr_ base sp (.ref lay.length) :: st.map (tr_ base sp))) := hk
    rw [tr_ref (by omega)] at hk
    exact hk
set_option maxHeartbeats 400000 in
theorem Y_newa_z {n : Nat} {x : Int32} (i : Nat) (h : (m_t M)[i]? = some (pc, .newarray .boolean, 2)) (hp : pc + 2 = pc2) (hw : Cond.arrayClass .boolean ∈ Tb) (hx : x = nI n) (hnn : n ≤ 100000) (hc1 : lay.length + 1 ≤ cap.1) (hc2 : sl_ lay + n ≤ cap.2) (hln : lay.length + 1 ≤ 1000000) (k : Y G M cap pc2 ls (.ref lay.length :: st) (lay ++ [(13, n, [])], ur_ mm lay.length (fun _ => 0)) Q) : Y G M cap pc ls (.int x :: st) (lay, mm) Q := by
  intro p l e R s m args below meth c D cA base sp n0 s0 Z C fin H locs lsA cells slots hA hL
  subst hp; subst hx
  have hcc := C.rm.2.2.1
  have hcs := C.rm.2.2.2
  have e1 : cells + n0 = lay.length := hA.2.2.2.1
  have e2 : slots + s0 = sl_ lay := hA.2.2.2.2.1
  refine va_newa (ty := .boolean) (a0 := (n, .inl (fun _ => 0))) (N' := n) C.ex C.by (atype := .boolean) (C.ts _ hw) rfl C.st.1 hA.1 wd_D hA.2.2.1 (fun q hq => ?_) (fun _ => rfl) (nI_pos (by omega)) (nI_clamp (by omega)) (by show n * _ ≤ _; simp only [componentBytes]; omega) (by omega) (by omega) (C.dec h) (fun q cB H1 hK1 hP1 hD1 hS1 => ?_)
  · show base ≤ q
    have := C.sz
    omega
  · refine W_siz (fun hz => ?_)
    have hq := q_is hP1 hD1 (by have := C.sz; simp only; omega)
    subst hq
    have f1 : s.vm.findClass ("[" ++ (FieldType.toString .boolean)) = some cB := (hK1.2 7 (cB, .boolean) rfl).2
    have f2 : s.vm.findClass ("[" ++ (FieldType.toString .boolean)) = some (cA 13) := (C.st.1.2 2 (cA 13, .boolean) rfl).2
    have hB : cB = cA 13 := Option.some.inj (f1.symm.trans f2)
    subst hB
    have hP2 : va_P D vwCl (wd_ cA base (lay ++ [(13, n, [])], ur_ mm lay.length (fun _ => 0))) H1 := by
      rw [wd_push]
      exact hP1
    have hk := k p l e R s m args below meth c D cA base sp n0 s0 Z C fin H1 locs lsA (cells + 1) (slots + n) ⟨hP2, by simpa using hln, hS1, by simp; omega, by show _ = sl_ (lay ++ [(13, n, [])]); rw [sl_push]; simp only; omega, by omega, by omega⟩ hL
    have hk : W p l e R s m args below meth c H1 locs (cells + 1) (slots + n) Z (F0 m (pc + 2) lsA (tr_ base sp (.ref lay.length) :: st.map (tr_ base sp))) := hk
    rw [tr_ref (by omega)] at hk
    exact hk
set_option maxHeartbeats 400000 in
theorem Y_newq_Circle {index n : Nat} {x : Int32} (i : Nat) (h : (m_t M)[i]? = some (pc, .anewarray index, 3)) (hp : pc + 3 = pc2) (hw : Cond.classLink (m_y M).cls index "GongHouse$Circle" ∈ Tb) (hx : x = nI n) (hnn : n ≤ 100000) (hc1 : lay.length + 1 ≤ cap.1) (hc2 : sl_ lay + n ≤ cap.2) (hln : lay.length + 1 ≤ 1000000) (k : Y G M cap pc2 ls (.ref lay.length :: st) (lay ++ [(14, n, List.replicate n none)], ur_ mm lay.length (fun _ => 0)) Q) : Y G M cap pc ls (.int x :: st) (lay, mm) Q := by
  intro p l e R s m args below meth c D cA base sp n0 s0 Z C fin H locs lsA cells slots hA hL
  subst hp; subst hx
  have hcc := C.rm.2.2.1
  have hcs := C.rm.2.2.2
  have e1 : cells + n0 = lay.length := hA.2.2.2.1
  have e2 : slots + s0 = sl_ lay := hA.2.2.2.2.1
  refine va_newq (N' := n) C.ex C.by C.ow (C.ts _ hw) C.st.2.2.1.1 C.st.1 hA.1 wd_D hA.2.2.1 (fun q hq => ?_) (nI_pos (by omega)) (nI_clamp (by omega)) (by omega) (by omega) (by omega) (C.dec h) (fun q cB H1 hK1 hP1 hD1 hS1 => ?_)
  · show base ≤ q
    have := C.sz
    omega
  · refine W_siz (fun hz => ?_)
    have hq := q_is hP1 hD1 (by have := C.sz; simp only; omega)
    subst hq
    obtain ⟨kA, comp, -, -, -, f1⟩ := (hK1.2 7 (cB, .object "GongHouse$Circle") rfl).2
    obtain ⟨kA2, comp2, -, -, -, f2⟩ := (C.st.1.2 3 (cA 14, .object "GongHouse$Circle") rfl).2
    have hB : cB = cA 14 := Option.some.inj (f1.symm.trans f2)
    subst hB
    have hP2 : va_P D vwCl (wd_ cA base (lay ++ [(14, n, List.replicate n none)], ur_ mm lay.length (fun _ => 0))) H1 := by
      rw [wd_push, cl_q (by omega)]
      have ee : (fun k => ((List.replicate n (none : Option Nat)).getD k none).map (fun r => base + r)) = fun _ => none := by
        funext k
        by_cases hk : k < n <;> simp [hk]
      rw [ee]
      exact hP1
    have hk := k p l e R s m args below meth c D cA base sp n0 s0 Z C fin H1 locs lsA (cells + 1) (slots + n) ⟨hP2, by simpa using hln, hS1, by simp; omega, by show _ = sl_ (lay ++ [(14, n, List.replicate n none)]); rw [sl_push]; simp only; omega, by omega, by omega⟩ hL
    have hk : W p l e R s m args below meth c H1 locs (cells + 1) (slots + n) Z (F0 m (pc + 3) lsA (tr_ base sp (.ref lay.length) :: st.map (tr_ base sp))) := hk
    rw [tr_ref (by omega)] at hk
    exact hk
set_option maxHeartbeats 400000 in
theorem Y_newq_Figure {index n : Nat} {x : Int32} (i : Nat) (h : (m_t M)[i]? = some (pc, .anewarray index, 3)) (hp : pc + 3 = pc2) (hw : Cond.classLink (m_y M).cls index "GongHouse$Figure" ∈ Tb) (hx : x = nI n) (hnn : n ≤ 100000) (hc1 : lay.length + 1 ≤ cap.1) (hc2 : sl_ lay + n ≤ cap.2) (hln : lay.length + 1 ≤ 1000000) (k : Y G M cap pc2 ls (.ref lay.length :: st) (lay ++ [(15, n, List.replicate n none)], ur_ mm lay.length (fun _ => 0)) Q) : Y G M cap pc ls (.int x :: st) (lay, mm) Q := by
  intro p l e R s m args below meth c D cA base sp n0 s0 Z C fin H locs lsA cells slots hA hL
  subst hp; subst hx
  have hcc := C.rm.2.2.1
  have hcs := C.rm.2.2.2
  have e1 : cells + n0 = lay.length := hA.2.2.2.1
  have e2 : slots + s0 = sl_ lay := hA.2.2.2.2.1
  refine va_newq (N' := n) C.ex C.by C.ow (C.ts _ hw) C.st.2.2.1.2.1 C.st.1 hA.1 wd_D hA.2.2.1 (fun q hq => ?_) (nI_pos (by omega)) (nI_clamp (by omega)) (by omega) (by omega) (by omega) (C.dec h) (fun q cB H1 hK1 hP1 hD1 hS1 => ?_)
  · show base ≤ q
    have := C.sz
    omega
  · refine W_siz (fun hz => ?_)
    have hq := q_is hP1 hD1 (by have := C.sz; simp only; omega)
    subst hq
    obtain ⟨kA, comp, -, -, -, f1⟩ := (hK1.2 7 (cB, .object "GongHouse$Figure") rfl).2
    obtain ⟨kA2, comp2, -, -, -, f2⟩ := (C.st.1.2 4 (cA 15, .object "GongHouse$Figure") rfl).2
    have hB : cB = cA 15 := Option.some.inj (f1.symm.trans f2)
    subst hB
    have hP2 : va_P D vwCl (wd_ cA base (lay ++ [(15, n, List.replicate n none)], ur_ mm lay.length (fun _ => 0))) H1 := by
      rw [wd_push, cl_q (by omega)]
      have ee : (fun k => ((List.replicate n (none : Option Nat)).getD k none).map (fun r => base + r)) = fun _ => none := by
        funext k
        by_cases hk : k < n <;> simp [hk]
      rw [ee]
      exact hP1
    have hk := k p l e R s m args below meth c D cA base sp n0 s0 Z C fin H1 locs lsA (cells + 1) (slots + n) ⟨hP2, by simpa using hln, hS1, by simp; omega, by show _ = sl_ (lay ++ [(15, n, List.replicate n none)]); rw [sl_push]; simp only; omega, by omega, by omega⟩ hL
    have hk : W p l e R s m args below meth c H1 locs (cells + 1) (slots + n) Z (F0 m (pc + 3) lsA (tr_ base sp (.ref lay.length) :: st.map (tr_ base sp))) := hk
    rw [tr_ref (by omega)] at hk
    exact hk
set_option maxHeartbeats 400000 in
theorem Y_newq_Level {index n : Nat} {x : Int32} (i : Nat) (h : (m_t M)[i]? = some (pc, .anewarray index, 3)) (hp : pc + 3 = pc2) (hw : Cond.classLink (m_y M).cls index "GongHouse$Level" ∈ Tb) (hx : x = nI n) (hnn : n ≤ 100000) (hc1 : lay.length + 1 ≤ cap.1) (hc2 : sl_ lay + n ≤ cap.2) (hln : lay.length + 1 ≤ 1000000) (k : Y G M cap pc2 ls (.ref lay.length :: st) (lay ++ [(16, n, List.replicate n none)], ur_ mm lay.length (fun _ => 0)) Q) : Y G M cap pc ls (.int x :: st) (lay, mm) Q := by
  intro p l e R s m args below meth c D cA base sp n0 s0 Z C fin H locs lsA cells slots hA hL
  subst hp; subst hx
  have hcc := C.rm.2.2.1
  have hcs := C.rm.2.2.2
  have e1 : cells + n0 = lay.length := hA.2.2.2.1
  have e2 : slots + s0 = sl_ lay := hA.2.2.2.2.1
  refine va_newq (N' := n) C.ex C.by C.ow (C.ts _ hw) C.st.2.2.1.2.2.1 C.st.1 hA.1 wd_D hA.2.2.1 (fun q hq => ?_) (nI_pos (by omega)) (nI_clamp (by omega)) (by omega) (by omega) (by omega) (C.dec h) (fun q cB H1 hK1 hP1 hD1 hS1 => ?_)
  · show base ≤ q
    have := C.sz
    omega
  · refine W_siz (fun hz => ?_)
    have hq := q_is hP1 hD1 (by have := C.sz; simp only; omega)
    subst hq
    obtain ⟨kA, comp, -, -, -, f1⟩ := (hK1.2 7 (cB, .object "GongHouse$Level") rfl).2
    obtain ⟨kA2, comp2, -, -, -, f2⟩ := (C.st.1.2 5 (cA 16, .object "GongHouse$Level") rfl).2
    have hB : cB = cA 16 := Option.some.inj (f1.symm.trans f2)
    subst hB
    have hP2 : va_P D vwCl (wd_ cA base (lay ++ [(16, n, List.replicate n none)], ur_ mm lay.length (fun _ => 0))) H1 := by
      rw [wd_push, cl_q (by omega)]
      have ee : (fun k => ((List.replicate n (none : Option Nat)).getD k none).map (fun r => base + r)) = fun _ => none := by
        funext k
        by_cases hk : k < n <;> simp [hk]
      rw [ee]
      exact hP1
    have hk := k p l e R s m args below meth c D cA base sp n0 s0 Z C fin H1 locs lsA (cells + 1) (slots + n) ⟨hP2, by simpa using hln, hS1, by simp; omega, by show _ = sl_ (lay ++ [(16, n, List.replicate n none)]); rw [sl_push]; simp only; omega, by omega, by omega⟩ hL
    have hk : W p l e R s m args below meth c H1 locs (cells + 1) (slots + n) Z (F0 m (pc + 3) lsA (tr_ base sp (.ref lay.length) :: st.map (tr_ base sp))) := hk
    rw [tr_ref (by omega)] at hk
    exact hk
set_option maxHeartbeats 400000 in
theorem Y_newq_Sheet {index n : Nat} {x : Int32} (i : Nat) (h : (m_t M)[i]? = some (pc, .anewarray index, 3)) (hp : pc + 3 = pc2) (hw : Cond.classLink (m_y M).cls index "GongHouse$Sheet" ∈ Tb) (hx : x = nI n) (hnn : n ≤ 100000) (hc1 : lay.length + 1 ≤ cap.1) (hc2 : sl_ lay + n ≤ cap.2) (hln : lay.length + 1 ≤ 1000000) (k : Y G M cap pc2 ls (.ref lay.length :: st) (lay ++ [(17, n, List.replicate n none)], ur_ mm lay.length (fun _ => 0)) Q) : Y G M cap pc ls (.int x :: st) (lay, mm) Q := by
  intro p l e R s m args below meth c D cA base sp n0 s0 Z C fin H locs lsA cells slots hA hL
  subst hp; subst hx
  have hcc := C.rm.2.2.1
  have hcs := C.rm.2.2.2
  have e1 : cells + n0 = lay.length := hA.2.2.2.1
  have e2 : slots + s0 = sl_ lay := hA.2.2.2.2.1
  refine va_newq (N' := n) C.ex C.by C.ow (C.ts _ hw) C.st.2.2.1.2.2.2 C.st.1 hA.1 wd_D hA.2.2.1 (fun q hq => ?_) (nI_pos (by omega)) (nI_clamp (by omega)) (by omega) (by omega) (by omega) (C.dec h) (fun q cB H1 hK1 hP1 hD1 hS1 => ?_)
  · show base ≤ q
    have := C.sz
    omega
  · refine W_siz (fun hz => ?_)
    have hq := q_is hP1 hD1 (by have := C.sz; simp only; omega)
    subst hq
    obtain ⟨kA, comp, -, -, -, f1⟩ := (hK1.2 7 (cB, .object "GongHouse$Sheet") rfl).2
    obtain ⟨kA2, comp2, -, -, -, f2⟩ := (C.st.1.2 6 (cA 17, .object "GongHouse$Sheet") rfl).2
    have hB : cB = cA 17 := Option.some.inj (f1.symm.trans f2)
    subst hB
    have hP2 : va_P D vwCl (wd_ cA base (lay ++ [(17, n, List.replicate n none)], ur_ mm lay.length (fun _ => 0))) H1 := by
      rw [wd_push, cl_q (by omega)]
      have ee : (fun k => ((List.replicate n (none : Option Nat)).getD k none).map (fun r => base + r)) = fun _ => none := by
        funext k
        by_cases hk : k < n <;> simp [hk]
      rw [ee]
      exact hP1
    have hk := k p l e R s m args below meth c D cA base sp n0 s0 Z C fin H1 locs lsA (cells + 1) (slots + n) ⟨hP2, by simpa using hln, hS1, by simp; omega, by show _ = sl_ (lay ++ [(17, n, List.replicate n none)]); rw [sl_push]; simp only; omega, by omega, by omega⟩ hL
    have hk : W p l e R s m args below meth c H1 locs (cells + 1) (slots + n) Z (F0 m (pc + 3) lsA (tr_ base sp (.ref lay.length) :: st.map (tr_ base sp))) := hk
    rw [tr_ref (by omega)] at hk
    exact hk
end Y3
