/-! what the JDK gives -/
section Y5
variable {G : Nat × (Nat → Int32)} {M : Mi} {cap : Nat × Nat} {pc pc2 : Nat} {ls ls2 : List (Option Value)} {st : List Value} {σ : Sg} {lay : Ly} {mm : Mm} {Q : Option Value → Sg → Prop}
set_option maxHeartbeats 400000 in
theorem Y_objInit {index a : Nat} (i : Nat) (h : (m_t M)[i]? = some (pc, .invokespecial index, 3)) (hp : pc + 3 = pc2) (h1 : Cond.methodLink (m_y M).cls index objectInit ∈ Tb) (h2 : Cond.instanceMethod objectInit ∈ Tb) (h3 : Cond.code objectInit ⟨#[0xb1]⟩ 1 none ∈ Tb) (ha : a < 1000000) (hf : 1 ≤ m_f M) (hw : (st.map fun v => v.category).sum + 12 ≤ m_w M) (k : Y G M cap pc2 ls st σ Q) : Y G M cap pc ls (.ref a :: st) σ Q := by
  intro p l e R s m args below meth c D cA base sp n0 s0 Z C fin H locs lsA cells slots hA hL
  subst hp
  have hrf := C.rm.1
  have hrl := C.rm.2.1
  have hk := (k p l e R s m args below meth c D cA base sp n0 s0 Z C fin H locs lsA cells slots hA hL)
  refine W.objInit C.ex C.by C.ow (C.ts _ h1) (C.ts _ h2) (C.ts _ h3) rfl (by rw [C.ml]; exact hL.2.1) (a := base + a) (rest := st.map (tr_ base sp)) (by show tr_ base sp (.ref a) :: _ = _; rw [tr_ref ha]) (C.dec h) (by omega) ?_ hk
  have ecs := cat_sum (base := base) (sp := sp) st
  show 2 * 0 + _ + 12 ≤ _
  omega
set_option maxHeartbeats 400000 in
theorem Y_min {index : Nat} {x y : Int32} (i : Nat) (h : (m_t M)[i]? = some (pc, .invokestatic index, 3)) (hp : pc + 3 = pc2) (h1 : Cond.methodLink (m_y M).cls index Lib.Math.min.name ∈ Tb) (h2 : Cond.static Lib.Math.min.name ∈ Tb) (h3 : Cond.initialized "java/lang/Math" ∈ Tb) (h4 : Cond.code Lib.Math.min.name Lib.Math.min.code 2 (some .int) ∈ Tb) (hf : 1 ≤ m_f M) (hw : (st.map fun v => v.category).sum + 13 ≤ m_w M) (k : Y G M cap pc2 ls (.int (if y < x then y else x) :: st) σ Q) : Y G M cap pc ls (.int y :: .int x :: st) σ Q := by
  intro p l e R s m args below meth c D cA base sp n0 s0 Z C fin H locs lsA cells slots hA hL
  subst hp
  have hrf := C.rm.1
  have hrl := C.rm.2.1
  have hk := (k p l e R s m args below meth c D cA base sp n0 s0 Z C fin H locs lsA cells slots hA hL)
  have ecs := cat_sum (base := base) (sp := sp) st
  exact va_mmin C.ex C.by (by rw [C.ml]; exact hL.2.1.symm) C.ow (C.ts _ h1) (C.ts _ h2) (C.ts _ h3) (C.ts _ h4) (by omega) (by omega) hA.2.2.2.2.2.1 hA.2.2.2.2.2.2 (C.dec h) hk
set_option maxHeartbeats 400000 in
theorem Y_abs {index : Nat} {x y : Int32} (i : Nat) (h : (m_t M)[i]? = some (pc, .invokestatic index, 3)) (hp : pc + 3 = pc2) (h1 : Cond.methodLink (m_y M).cls index Lib.Math.abs.name ∈ Tb) (h2 : Cond.static Lib.Math.abs.name ∈ Tb) (h3 : Cond.initialized "java/lang/Math" ∈ Tb) (h4 : Cond.code Lib.Math.abs.name Lib.Math.abs.code 1 (some .int) ∈ Tb) (hf : 1 ≤ m_f M) (hw : (st.map fun v => v.category).sum + 13 ≤ m_w M) (k : Y G M cap pc2 ls (.int (if 0 ≤ x then x else 0 - x) :: st) σ Q) : Y G M cap pc ls (.int x :: st) σ Q := by
  intro p l e R s m args below meth c D cA base sp n0 s0 Z C fin H locs lsA cells slots hA hL
  subst hp
  have hrf := C.rm.1
  have hrl := C.rm.2.1
  have hk := (k p l e R s m args below meth c D cA base sp n0 s0 Z C fin H locs lsA cells slots hA hL)
  have ecs := cat_sum (base := base) (sp := sp) st
  exact va_mabs C.ex C.by (by rw [C.ml]; exact hL.2.1.symm) C.ow (C.ts _ h1) (C.ts _ h2) (C.ts _ h3) (C.ts _ h4) (by omega) (by omega) hA.2.2.2.2.2.1 hA.2.2.2.2.2.2 (C.dec h) hk
set_option maxHeartbeats 400000 in
theorem Y_copy_i {index a b u v n na nb : Nat} {ra rb : List (Option Nat)} {xu xv xn : Int32} (i : Nat) (h : (m_t M)[i]? = some (pc, .invokestatic index, 3)) (hp : pc + 3 = pc2) (h1 : Cond.methodLink (m_y M).cls index arraycopyName ∈ Tb) (h2 : Cond.native arraycopyName ∈ Tb) (h3 : Cond.static arraycopyName ∈ Tb) (h4 : Cond.initialized "java/lang/System" ∈ Tb) (ha : lay[a]? = some (12, na, ra)) (hb : lay[b]? = some (12, nb, rb)) (hu : xu = nI u) (hv : xv = nI v) (hn : xn = nI n) (hla : u + n ≤ na) (hlb : v + n ≤ nb) (hna : na < 2 ^ 31) (hnb : nb < 2 ^ 31) (hf : 1 ≤ m_f M) (hw : (st.map fun v => v.category).sum + (nativeFrameWords "java/lang/System" "arraycopy" 5 + 11) ≤ m_w M) (k : Y G M cap pc2 ls st (lay, ur_ mm b (va_cpy (mm a) (mm b) u v n)) Q) : Y G M cap pc ls (.int xn :: .int xv :: .ref b :: .int xu :: .ref a :: st) (lay, mm) Q := by
  intro p l e R s m args below meth c D cA base sp n0 s0 Z C fin H locs lsA cells slots hA hL
  subst hp; subst hu; subst hv; subst hn
  have hrf := C.rm.1
  have hrl := C.rm.2.1
  have ecs := cat_sum (base := base) (sp := sp) st
  show W p l e R s m args below meth c H locs cells slots Z (F0 m pc lsA (.int (nI n) :: .int (nI v) :: tr_ base sp (.ref b) :: .int (nI u) :: tr_ base sp (.ref a) :: st.map (tr_ base sp)))
  rw [tr_ref (At_.lt hA ha), tr_ref (At_.lt hA hb)]
  have cu : (nI u).toNatClampNeg = u := nI_clamp (by omega)
  have cv : (nI v).toNatClampNeg = v := nI_clamp (by omega)
  have cn : (nI n).toNatClampNeg = n := nI_clamp (by omega)
  refine va_copyi (ty := .int) (n0 := na) (n1 := nb) (f := mm a) (g := mm b) (c0 := cA 12) (c1 := cA 12) C.ex C.by (by rw [C.ml]; exact hL.2.1.symm) C.ow (C.ts _ h1) (C.ts _ h2) (C.ts _ h3) (C.ts _ h4) C.st.1 hA.1 wd_D hA.2.2.1 a b 1 1 (by rw [wd_get (σ := (lay, mm)) ha]; rfl) (by rw [wd_get (σ := (lay, mm)) hb]; rfl) rfl rfl rfl (nI_pos (by omega)) (nI_pos (by omega)) (nI_pos (by omega)) (by rw [cu, cn]; exact hla) (by rw [cv, cn]; exact hlb) (fun q hq => rfl) (by omega) (by omega) (C.dec h) (fun H1 locs1 hP1 hD1 hS1 => ?_)
  rw [cu, cv, cn, wd_set1 (row := va_cpy (mm a) (mm b) u v n) hb (by rfl)] at hP1
  exact k p l e R s m args below meth c D cA base sp n0 s0 Z C fin H1 locs1 lsA cells slots (hA.to (σ' := (lay, ur_ mm b (va_cpy (mm a) (mm b) u v n))) rfl rfl hP1 hS1) hL
set_option maxHeartbeats 400000 in
theorem Y_copy_b {index a b u v n na nb : Nat} {ra rb : List (Option Nat)} {xu xv xn : Int32} (i : Nat) (h : (m_t M)[i]? = some (pc, .invokestatic index, 3)) (hp : pc + 3 = pc2) (h1 : Cond.methodLink (m_y M).cls index arraycopyName ∈ Tb) (h2 : Cond.native arraycopyName ∈ Tb) (h3 : Cond.static arraycopyName ∈ Tb) (h4 : Cond.initialized "java/lang/System" ∈ Tb) (ha : lay[a]? = some (11, na, ra)) (hb : lay[b]? = some (11, nb, rb)) (hu : xu = nI u) (hv : xv = nI v) (hn : xn = nI n) (hla : u + n ≤ na) (hlb : v + n ≤ nb) (hna : na < 2 ^ 31) (hnb : nb < 2 ^ 31) (hfit : ∀ q, q < n → fits .byte (.int (mm a (u + q))) = true) (hf : 1 ≤ m_f M) (hw : (st.map fun v => v.category).sum + (nativeFrameWords "java/lang/System" "arraycopy" 5 + 11) ≤ m_w M) (k : Y G M cap pc2 ls st (lay, ur_ mm b (va_cpy (mm a) (mm b) u v n)) Q) : Y G M cap pc ls (.int xn :: .int xv :: .ref b :: .int xu :: .ref a :: st) (lay, mm) Q := by
  intro p l e R s m args below meth c D cA base sp n0 s0 Z C fin H locs lsA cells slots hA hL
  subst hp; subst hu; subst hv; subst hn
  have hrf := C.rm.1
  have hrl := C.rm.2.1
  have ecs := cat_sum (base := base) (sp := sp) st
  show W p l e R s m args below meth c H locs cells slots Z (F0 m pc lsA (.int (nI n) :: .int (nI v) :: tr_ base sp (.ref b) :: .int (nI u) :: tr_ base sp (.ref a) :: st.map (tr_ base sp)))
  rw [tr_ref (At_.lt hA ha), tr_ref (At_.lt hA hb)]
  have cu : (nI u).toNatClampNeg = u := nI_clamp (by omega)
  have cv : (nI v).toNatClampNeg = v := nI_clamp (by omega)
  have cn : (nI n).toNatClampNeg = n := nI_clamp (by omega)
  refine va_copyi (ty := .byte) (n0 := na) (n1 := nb) (f := mm a) (g := mm b) (c0 := cA 11) (c1 := cA 11) C.ex C.by (by rw [C.ml]; exact hL.2.1.symm) C.ow (C.ts _ h1) (C.ts _ h2) (C.ts _ h3) (C.ts _ h4) C.st.1 hA.1 wd_D hA.2.2.1 a b 0 0 (by rw [wd_get (σ := (lay, mm)) ha]; rfl) (by rw [wd_get (σ := (lay, mm)) hb]; rfl) rfl rfl rfl (nI_pos (by omega)) (nI_pos (by omega)) (nI_pos (by omega)) (by rw [cu, cn]; exact hla) (by rw [cv, cn]; exact hlb) (fun q hq => by rw [cu]; rw [cn] at hq; exact hfit q hq) (by omega) (by omega) (C.dec h) (fun H1 locs1 hP1 hD1 hS1 => ?_)
  rw [cu, cv, cn, wd_set1 (row := va_cpy (mm a) (mm b) u v n) hb (by rfl)] at hP1
  exact k p l e R s m args below meth c D cA base sp n0 s0 Z C fin H1 locs1 lsA cells slots (hA.to (σ' := (lay, ur_ mm b (va_cpy (mm a) (mm b) u v n))) rfl rfl hP1 hS1) hL
end Y5
