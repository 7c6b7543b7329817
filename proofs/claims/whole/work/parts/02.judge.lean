/-! THE JUDGEMENT Y: a method at a pc, with locals, stack and memory (addresses relative to a base), comes to a return -/
abbrev Ly : Type := List (Nat × Nat × List (Option Nat))
abbrev Mm : Type := Nat → Nat → Int32
abbrev Sg : Type := Ly × Mm
/-- a method: name, code, locals, answer's type, room in frames and in locals' words, its instructions -/
abbrev Mi : Type := MethodName × ByteArray × Nat × Option FieldType × Nat × Nat × List (Nat × Instr × Nat)
abbrev m_y (M : Mi) : MethodName := M.1
abbrev m_c (M : Mi) : ByteArray := M.2.1
abbrev m_l (M : Mi) : Nat := M.2.2.1
abbrev m_r (M : Mi) : Option FieldType := M.2.2.2.1
abbrev m_f (M : Mi) : Nat := M.2.2.2.2.1
abbrev m_w (M : Mi) : Nat := M.2.2.2.2.2.1
abbrev m_t (M : Mi) : List (Nat × Instr × Nat) := M.2.2.2.2.2.2
def ty_c (ci k : Nat) : FieldType := match ci with
  | 0 => tyX0 k
  | 1 => tyX1 k
  | 2 => tyX2 k
  | 3 => tyX3 k
  | 4 => tyX4 k
  | 5 => tyX5 k
  | 6 => tyX6 k
  | 7 => tyX7 k
  | 8 => tyX8 k
  | 9 => tyX9 k
  | _ => tyX10 k
def is_I (t : FieldType) : Bool := match t with
  | .int => true
  | .boolean => true
  | _ => false
def cl_e (cA : Nat → ClassId) (base : Nat) (e : Nat × Nat × List (Option Nat)) (row : Nat → Int32) : va_E :=
  if e.1 < 11 then .inr (e.1, (List.range e.2.1).map (fun k => if is_I (ty_c e.1 k) = true then Value.int (row k) else va_rf ((e.2.2.getD k none).map (fun r => base + r))))
  else if e.1 < 14 then .inl (cA e.1, e.2.1, .inl row)
  else .inl (cA e.1, e.2.1, .inr (.inr (.inr (.inr (fun k => (e.2.2.getD k none).map (fun r => base + r))))))
def wd_ (cA : Nat → ClassId) (base : Nat) (σ : Sg) : va_W := σ.1.mapIdx (fun a e => (base + a, cl_e cA base e (σ.2 a)))
def ur_ (m : Mm) (a : Nat) (row : Nat → Int32) : Mm := fun b => if b = a then row else m b
def uw_ (m : Mm) (a k : Nat) (v : Int32) : Mm := fun b j => if b = a ∧ j = k then v else m b j
set_option maxHeartbeats 400000 in
theorem ur_w (m : Mm) (a k : Nat) (v : Int32) : ur_ m a (upd (m a) k v) = uw_ m a k v := by
  funext b j
  by_cases hb : b = a
  · subst hb
    by_cases hj : j = k <;> simp [ur_, uw_, upd, hj]
  · simp [ur_, uw_, hb]
set_option maxHeartbeats 400000 in
theorem wd_get {cA : Nat → ClassId} {base : Nat} {σ : Sg} {a : Nat} {e : Nat × Nat × List (Option Nat)} (h : σ.1[a]? = some e) : (wd_ cA base σ)[a]? = some (base + a, cl_e cA base e (σ.2 a)) := by
  simp [wd_, List.getElem?_mapIdx, h]
set_option maxHeartbeats 400000 in
theorem wd_inv {cA : Nat → ClassId} {base : Nat} {σ : Sg} {a : Nat} {q : Nat × va_E} (h : (wd_ cA base σ)[a]? = some q) : q.1 = base + a ∧ a < σ.1.length := by
  simp only [wd_, List.getElem?_mapIdx, Option.map_eq_some_iff] at h
  obtain ⟨e, h1, h2⟩ := h
  exact ⟨by rw [← h2], (List.getElem?_eq_some_iff.mp h1).1⟩
set_option maxHeartbeats 400000 in
theorem wd_D {cA : Nat → ClassId} {base : Nat} {σ : Sg} : va_D (fun q => base ≤ q) (wd_ cA base σ) := by
  refine ⟨fun i j p q hi hj hpq => ?_, fun k q hk => ?_⟩
  · have h1 := (wd_inv hi).1
    have h2 := (wd_inv hj).1
    omega
  · have h1 := (wd_inv hk).1
    show base ≤ q.1
    omega
set_option maxHeartbeats 400000 in
theorem wd_set {cA : Nat → ClassId} {base : Nat} {lay : Ly} {m : Mm} {a : Nat} {e e' : Nat × Nat × List (Option Nat)} {row : Nat → Int32} {E : va_E} (h : lay[a]? = some e) (hE : E = cl_e cA base e' row) :
    (wd_ cA base (lay, m)).set a (base + a, E) = wd_ cA base (lay.set a e', ur_ m a row) := by
  have ha : a < lay.length := (List.getElem?_eq_some_iff.mp h).1
  apply List.ext_getElem?
  intro i
  by_cases hi : i = a
  · subst hi
    simp [wd_, List.getElem?_mapIdx, List.getElem?_set, ha, hE, ur_]
  · simp [wd_, List.getElem?_mapIdx, List.getElem?_set, hi, Ne.symm hi, ur_]
set_option maxHeartbeats 400000 in
theorem wd_set1 {cA : Nat → ClassId} {base : Nat} {lay : Ly} {m : Mm} {a : Nat} {e : Nat × Nat × List (Option Nat)} {row : Nat → Int32} {E : va_E} (h : lay[a]? = some e) (hE : E = cl_e cA base e row) :
    (wd_ cA base (lay, m)).set a (base + a, E) = wd_ cA base (lay, ur_ m a row) := by
  rw [wd_set (e' := e) h hE]
  have : lay.set a e = lay := by
    apply List.ext_getElem?
    intro i
    by_cases hi : i = a
    · subst hi
      have ha : i < lay.length := (List.getElem?_eq_some_iff.mp h).1
      rw [List.getElem?_set, if_pos rfl, if_pos ha, h]
    · simp [List.getElem?_set, Ne.symm hi]
  rw [this]
def tr_ (base : Nat) (sp : Nat → Nat) (v : Value) : Value := match v with
  | .ref k => .ref (if k < 1000000 then base + k else sp (k - 1000000))
  | w => w
set_option maxHeartbeats 400000 in
theorem tr_cat (base : Nat) (sp : Nat → Nat) (v : Value) : (tr_ base sp v).category = v.category := by
  cases v <;> rfl
set_option maxHeartbeats 400000 in
theorem tr_ref {base : Nat} {sp : Nat → Nat} {k : Nat} (h : k < 1000000) : tr_ base sp (.ref k) = .ref (base + k) := by
  simp [tr_, h]
def Lh (base : Nat) (sp : Nat → Nat) (lsA : Array Slot) (nL : Nat) (ls : List (Option Value)) : Prop :=
  ls.length = nL ∧ lsA.size = nL ∧ lv_wf lsA ∧ ∀ (i : Nat) (v : Value), ls[i]? = some (some v) → lsA[i]? = some (.val (tr_ base sp v)) ∧ v.category = 1
def al_ (base : Nat) (sp : Nat → Nat) (ls : List (Option Value)) : List (Nat × Value) := (List.range ls.length).filterMap (fun i => ((ls[i]?).join).map (fun v => (i, tr_ base sp v)))
set_option maxHeartbeats 400000 in
theorem Lh.has {base : Nat} {sp : Nat → Nat} {lsA : Array Slot} {nL : Nat} {ls : List (Option Value)} (h : Lh base sp lsA nL ls) : lv_has lsA nL (al_ base sp ls) := by
  obtain ⟨h0, h1, h2, h3⟩ := h
  refine ⟨h1, h2, fun q hq => ?_⟩
  obtain ⟨i, -, hi⟩ := List.mem_filterMap.mp hq
  simp only [Option.map_eq_some_iff] at hi
  obtain ⟨v, hv, rfl⟩ := hi
  have : ls[i]? = some (some v) := by
    cases hh : ls[i]? with
    | none => rw [hh] at hv; cases hv
    | some w => rw [hh] at hv; cases w with
      | none => cases hv
      | some u => cases hv; rfl
  exact (h3 i v this).1
set_option maxHeartbeats 400000 in
theorem Lh.put {base : Nat} {sp : Nat → Nat} {lsA lsB : Array Slot} {nL i : Nat} {ls : List (Option Value)} {v : Value} (h : Lh base sp lsA nL ls) (hc : v.category = 1) (hi : i < ls.length)
    (hb : lv_has lsB nL ((i, tr_ base sp v) :: (al_ base sp ls).filter (fun q => !(q.1 == i) && !(q.1 + 1 == i && q.2.category == 2)))) : Lh base sp lsB nL (ls.set i (some v)) := by
  obtain ⟨h0, h1, h2, h3⟩ := h
  obtain ⟨g1, g2, g3⟩ := hb
  refine ⟨by simpa using h0, g1, g2, fun j w hj => ?_⟩
  by_cases hij : i = j
  · subst hij
    simp [List.getElem?_set, hi] at hj
    subst hj
    exact ⟨g3 (i, tr_ base sp v) List.mem_cons_self, hc⟩
  · rw [List.getElem?_set, if_neg hij] at hj
    have hw := h3 j w hj
    refine ⟨g3 (j, tr_ base sp w) (List.mem_cons_of_mem _ (List.mem_filter.mpr ⟨?_, ?_⟩)), hw.2⟩
    · refine List.mem_filterMap.mpr ⟨j, List.mem_range.mpr (List.getElem?_eq_some_iff.mp hj).1, ?_⟩
      rw [hj]
      rfl
    · have e1 : (tr_ base sp w).category = 1 := by rw [tr_cat]; exact hw.2
      have e2 : (j == i) = false := by simp [Ne.symm hij]
      simp [e1, e2]
def ty_s (cA : Nat → ClassId) : List (ClassId × FieldType) := [(cA 11, .byte), (cA 12, .int), (cA 13, .boolean), (cA 14, .object "GongHouse$Circle"), (cA 15, .object "GongHouse$Figure"), (cA 16, .object "GongHouse$Level"), (cA 17, .object "GongHouse$Sheet")]
def sl_ (lay : Ly) : Nat := (lay.map (fun e => e.2.1)).sum
def o_N (G : Nat × (Nat → Int32)) (j : Nat) : Nat := if j = 0 then G.1 else 4
def o_F (G : Nat × (Nat → Int32)) (j i : Nat) : Int32 := if j = 0 then G.2 i else if i = 0 then -1000000005 else if i = 3 then 2 else 0
def nw_ (U : State) : Prop := ∀ w ∈ NwTb, va_Nw w U
def ao_ (U : State) : Prop := va_AO "GongHouse$Circle" U ∧ va_AO "GongHouse$Figure" U ∧ va_AO "GongHouse$Level" U ∧ va_AO "GongHouse$Sheet" U
def oa_ (G : Nat × (Nat → Int32)) (base : Nat) (sp : Nat → Nat) (U : State) (H : Heap) : Prop :=
  (∀ j : Nat, j < 2 → va_T .int (sp j) (o_N G j) (fun i => .int (o_F G j i)) (fun q => base ≤ q) U H) ∧ va_Z "GongHouse" "KIND_ABOVE" "[I" (.ref (sp 1)) (fun q => base ≤ q) U H
def St_ (G : Nat × (Nat → Int32)) (D : va_G) (cA : Nat → ClassId) (base : Nat) (sp : Nat → Nat) (U : State) (H : Heap) : Prop :=
  va_K D vwCl (ty_s cA) U ∧ nw_ U ∧ ao_ U ∧ oa_ G base sp U H
def Cx (G : Nat × (Nat → Int32)) (M : Mi) (cap : Nat × Nat) (p : Program) (R : Room) (s : State) (m : MethodId) (args : Array Value) (meth : Method) (c : Code) (D : va_G) (cA : Nat → ClassId) (base : Nat) (sp : Nat → Nat) (n0 s0 : Nat) : Prop :=
  (p.tables.exec = Jvm.exec ∧ c.code = m_c M ∧ c.maxLocals = m_l M ∧ s.vm.findClass (m_y M).cls = some m.cls ∧ ∀ w ∈ Tb, w.before args s = true) ∧
  (∀ q ∈ m_t M, decode (m_c M) q.1 = .ok q.2) ∧ ((m_y M).name = "<init>" → meth.name = "<init>") ∧ (m_f M ≤ R.frames ∧ m_w M ≤ R.locals ∧ cap.1 ≤ n0 + R.cells ∧ cap.2 ≤ s0 + R.slots) ∧ St_ G D cA base sp s s.heap ∧ s.heap.size = base + n0
def At_ (R : Room) (s : State) (D : va_G) (cA : Nat → ClassId) (base n0 s0 : Nat) (σ : Sg) (H : Heap) (locs : List Loc) (cells slots : Nat) : Prop :=
  va_P D vwCl (wd_ cA base σ) H ∧ σ.1.length ≤ 1000000 ∧ va_S (fun q => base ≤ q) s.heap H locs ∧ cells + n0 = σ.1.length ∧ slots + s0 = sl_ σ.1 ∧ cells ≤ R.cells ∧ slots ≤ R.slots
def Rt (M : Mi) (pc : Nat) (st : List Value) (v : Option Value) : Prop :=
  (∃ (x : Int32) (ty : FieldType), decode (m_c M) pc = .ok (.ireturn, 1) ∧ m_r M = some ty ∧ narrow ty (.int x) = .int x ∧ st = [.int x] ∧ v = some (.int x)) ∨
  (∃ (a : Nat) (ty : FieldType), decode (m_c M) pc = .ok (.areturn, 1) ∧ m_r M = some ty ∧ ((∃ n, ty = .object n) ∨ ∃ t, ty = .array t) ∧ st = [.ref a] ∧ v = some (.ref a)) ∨
  (decode (m_c M) pc = .ok (.return_, 1) ∧ m_r M = none ∧ st = [] ∧ v = none)
/-- from here the method comes to a return with the answer v and the memory σ', and Q holds of them -/
def Y (G : Nat × (Nat → Int32)) (M : Mi) (cap : Nat × Nat) (pc : Nat) (ls : List (Option Value)) (st : List Value) (σ : Sg) (Q : Option Value → Sg → Prop) : Prop :=
  ∀ (p : Program) (l : Launch) (e : Env) (R : Room) (s : State) (m : MethodId) (args : Array Value) (below : List Frame) (meth : Method) (c : Code) (D : va_G) (cA : Nat → ClassId) (base : Nat) (sp : Nat → Nat) (n0 s0 : Nat) (Z : State → Prop),
  Cx G M cap p R s m args meth c D cA base sp n0 s0 →
  (∀ (H : Heap) (locs : List Loc) (lsA : Array Slot) (cells slots pc' : Nat) (st' : List Value) (v : Option Value) (σ' : Sg), At_ R s D cA base n0 s0 σ' H locs cells slots → Rt M pc' st' v → Q v σ' → W p l e R s m args below meth c H locs cells slots Z (F0 m pc' lsA (st'.map (tr_ base sp)))) →
  ∀ (H : Heap) (locs : List Loc) (lsA : Array Slot) (cells slots : Nat), At_ R s D cA base n0 s0 σ H locs cells slots → Lh base sp lsA (m_l M) ls → W p l e R s m args below meth c H locs cells slots Z (F0 m pc lsA (st.map (tr_ base sp)))
set_option maxHeartbeats 400000 in
theorem Cx.dec {G : Nat × (Nat → Int32)} {M : Mi} {cap : Nat × Nat} {p : Program} {R : Room} {s : State} {m : MethodId} {args : Array Value} {meth : Method} {c : Code} {D : va_G} {cA : Nat → ClassId} {base : Nat} {sp : Nat → Nat} {n0 s0 : Nat} (C : Cx G M cap p R s m args meth c D cA base sp n0 s0) {i pc ln : Nat} {ins : Instr} (h : (m_t M)[i]? = some (pc, ins, ln)) : decode (m_c M) pc = .ok (ins, ln) := C.2.1 (pc, ins, ln) (List.mem_of_getElem? h)
set_option maxHeartbeats 400000 in
theorem Cx.ex {G : Nat × (Nat → Int32)} {M : Mi} {cap : Nat × Nat} {p : Program} {R : Room} {s : State} {m : MethodId} {args : Array Value} {meth : Method} {c : Code} {D : va_G} {cA : Nat → ClassId} {base : Nat} {sp : Nat → Nat} {n0 s0 : Nat} (C : Cx G M cap p R s m args meth c D cA base sp n0 s0) : p.tables.exec = Jvm.exec := C.1.1
set_option maxHeartbeats 400000 in
theorem Cx.by {G : Nat × (Nat → Int32)} {M : Mi} {cap : Nat × Nat} {p : Program} {R : Room} {s : State} {m : MethodId} {args : Array Value} {meth : Method} {c : Code} {D : va_G} {cA : Nat → ClassId} {base : Nat} {sp : Nat → Nat} {n0 s0 : Nat} (C : Cx G M cap p R s m args meth c D cA base sp n0 s0) : c.code = m_c M := C.1.2.1
set_option maxHeartbeats 400000 in
theorem Cx.ml {G : Nat × (Nat → Int32)} {M : Mi} {cap : Nat × Nat} {p : Program} {R : Room} {s : State} {m : MethodId} {args : Array Value} {meth : Method} {c : Code} {D : va_G} {cA : Nat → ClassId} {base : Nat} {sp : Nat → Nat} {n0 s0 : Nat} (C : Cx G M cap p R s m args meth c D cA base sp n0 s0) : c.maxLocals = m_l M := C.1.2.2.1
set_option maxHeartbeats 400000 in
theorem Cx.ow {G : Nat × (Nat → Int32)} {M : Mi} {cap : Nat × Nat} {p : Program} {R : Room} {s : State} {m : MethodId} {args : Array Value} {meth : Method} {c : Code} {D : va_G} {cA : Nat → ClassId} {base : Nat} {sp : Nat → Nat} {n0 s0 : Nat} (C : Cx G M cap p R s m args meth c D cA base sp n0 s0) : s.vm.findClass (m_y M).cls = some m.cls := C.1.2.2.2.1
set_option maxHeartbeats 400000 in
theorem Cx.ts {G : Nat × (Nat → Int32)} {M : Mi} {cap : Nat × Nat} {p : Program} {R : Room} {s : State} {m : MethodId} {args : Array Value} {meth : Method} {c : Code} {D : va_G} {cA : Nat → ClassId} {base : Nat} {sp : Nat → Nat} {n0 s0 : Nat} (C : Cx G M cap p R s m args meth c D cA base sp n0 s0) : ∀ w ∈ Tb, w.before args s = true := C.1.2.2.2.2
set_option maxHeartbeats 400000 in
theorem Cx.fix {G : Nat × (Nat → Int32)} {M : Mi} {cap : Nat × Nat} {p : Program} {R : Room} {s : State} {m : MethodId} {args : Array Value} {meth : Method} {c : Code} {D : va_G} {cA : Nat → ClassId} {base : Nat} {sp : Nat → Nat} {n0 s0 : Nat} (C : Cx G M cap p R s m args meth c D cA base sp n0 s0) : CallFix p m c (m_c M) (m_l M) s args Tb (m_y M).cls := C.1
set_option maxHeartbeats 400000 in
theorem Cx.nm {G : Nat × (Nat → Int32)} {M : Mi} {cap : Nat × Nat} {p : Program} {R : Room} {s : State} {m : MethodId} {args : Array Value} {meth : Method} {c : Code} {D : va_G} {cA : Nat → ClassId} {base : Nat} {sp : Nat → Nat} {n0 s0 : Nat} (C : Cx G M cap p R s m args meth c D cA base sp n0 s0) : ((m_y M).name = "<init>" → meth.name = "<init>") := C.2.2.1
set_option maxHeartbeats 400000 in
theorem Cx.rm {G : Nat × (Nat → Int32)} {M : Mi} {cap : Nat × Nat} {p : Program} {R : Room} {s : State} {m : MethodId} {args : Array Value} {meth : Method} {c : Code} {D : va_G} {cA : Nat → ClassId} {base : Nat} {sp : Nat → Nat} {n0 s0 : Nat} (C : Cx G M cap p R s m args meth c D cA base sp n0 s0) : m_f M ≤ R.frames ∧ m_w M ≤ R.locals ∧ cap.1 ≤ n0 + R.cells ∧ cap.2 ≤ s0 + R.slots := C.2.2.2.1
set_option maxHeartbeats 400000 in
theorem Cx.st {G : Nat × (Nat → Int32)} {M : Mi} {cap : Nat × Nat} {p : Program} {R : Room} {s : State} {m : MethodId} {args : Array Value} {meth : Method} {c : Code} {D : va_G} {cA : Nat → ClassId} {base : Nat} {sp : Nat → Nat} {n0 s0 : Nat} (C : Cx G M cap p R s m args meth c D cA base sp n0 s0) : St_ G D cA base sp s s.heap := C.2.2.2.2.1
set_option maxHeartbeats 400000 in
theorem Cx.sz {G : Nat × (Nat → Int32)} {M : Mi} {cap : Nat × Nat} {p : Program} {R : Room} {s : State} {m : MethodId} {args : Array Value} {meth : Method} {c : Code} {D : va_G} {cA : Nat → ClassId} {base : Nat} {sp : Nat → Nat} {n0 s0 : Nat} (C : Cx G M cap p R s m args meth c D cA base sp n0 s0) : s.heap.size = base + n0 := C.2.2.2.2.2
set_option maxHeartbeats 400000 in
theorem Y.mono {G : Nat × (Nat → Int32)} {M : Mi} {cap : Nat × Nat} {pc : Nat} {ls : List (Option Value)} {st : List Value} {σ : Sg} {Q Q' : Option Value → Sg → Prop} (h : Y G M cap pc ls st σ Q) (hq : ∀ v σ', Q v σ' → Q' v σ') : Y G M cap pc ls st σ Q' :=
  fun p l e R s m args below meth c D cA base sp n0 s0 Z C fin => h p l e R s m args below meth c D cA base sp n0 s0 Z C (fun H locs lsA cells slots pc' st' v σ' hA hR hQ => fin H locs lsA cells slots pc' st' v σ' hA hR (hq v σ' hQ))

section Y1
variable {G : Nat × (Nat → Int32)} {M : Mi} {cap : Nat × Nat} {pc pc2 : Nat} {ls ls2 : List (Option Value)} {st : List Value} {σ : Sg} {Q : Option Value → Sg → Prop}
set_option maxHeartbeats 400000 in
theorem Y_iconst {n : Int} {v : Int32} (i : Nat) (h : (m_t M)[i]? = some (pc, .iconst n, 1)) (hp : pc + 1 = pc2) (hv : Int32.ofInt n = v) (k : Y G M cap pc2 ls (.int v :: st) σ Q) : Y G M cap pc ls (st) σ Q := by
  intro p l e R s m args below meth c D cA base sp n0 s0 Z C fin H locs lsA cells slots hA hL
  subst hp
  exact lv_iconst C.ex C.by (C.dec h) hv (k p l e R s m args below meth c D cA base sp n0 s0 Z C fin H locs lsA cells slots hA hL)
set_option maxHeartbeats 400000 in
theorem Y_bipush {n : Int} {v : Int32} (i : Nat) (h : (m_t M)[i]? = some (pc, .bipush n, 2)) (hp : pc + 2 = pc2) (hv : (Int8.ofInt n).toInt32 = v) (k : Y G M cap pc2 ls (.int v :: st) σ Q) : Y G M cap pc ls (st) σ Q := by
  intro p l e R s m args below meth c D cA base sp n0 s0 Z C fin H locs lsA cells slots hA hL
  subst hp
  exact lv_bipush C.ex C.by (C.dec h) hv (k p l e R s m args below meth c D cA base sp n0 s0 Z C fin H locs lsA cells slots hA hL)
set_option maxHeartbeats 400000 in
theorem Y_sipush {n : Int} {v : Int32} (i : Nat) (h : (m_t M)[i]? = some (pc, .sipush n, 3)) (hp : pc + 3 = pc2) (hv : (Int16.ofInt n).toInt32 = v) (k : Y G M cap pc2 ls (.int v :: st) σ Q) : Y G M cap pc ls (st) σ Q := by
  intro p l e R s m args below meth c D cA base sp n0 s0 Z C fin H locs lsA cells slots hA hL
  subst hp
  exact lv_sipush C.ex C.by (C.dec h) hv (k p l e R s m args below meth c D cA base sp n0 s0 Z C fin H locs lsA cells slots hA hL)
set_option maxHeartbeats 400000 in
theorem Y_iadd {x y : Int32} (i : Nat) (h : (m_t M)[i]? = some (pc, .iadd, 1)) (hp : pc + 1 = pc2) (k : Y G M cap pc2 ls (.int (x + y) :: st) σ Q) : Y G M cap pc ls (.int y :: .int x :: st) σ Q := by
  intro p l e R s m args below meth c D cA base sp n0 s0 Z C fin H locs lsA cells slots hA hL
  subst hp
  exact lv_iadd C.ex C.by (C.dec h) (k p l e R s m args below meth c D cA base sp n0 s0 Z C fin H locs lsA cells slots hA hL)
set_option maxHeartbeats 400000 in
theorem Y_isub {x y : Int32} (i : Nat) (h : (m_t M)[i]? = some (pc, .isub, 1)) (hp : pc + 1 = pc2) (k : Y G M cap pc2 ls (.int (x - y) :: st) σ Q) : Y G M cap pc ls (.int y :: .int x :: st) σ Q := by
  intro p l e R s m args below meth c D cA base sp n0 s0 Z C fin H locs lsA cells slots hA hL
  subst hp
  exact lv_isub C.ex C.by (C.dec h) (k p l e R s m args below meth c D cA base sp n0 s0 Z C fin H locs lsA cells slots hA hL)
set_option maxHeartbeats 400000 in
theorem Y_imul {x y : Int32} (i : Nat) (h : (m_t M)[i]? = some (pc, .imul, 1)) (hp : pc + 1 = pc2) (k : Y G M cap pc2 ls (.int (x * y) :: st) σ Q) : Y G M cap pc ls (.int y :: .int x :: st) σ Q := by
  intro p l e R s m args below meth c D cA base sp n0 s0 Z C fin H locs lsA cells slots hA hL
  subst hp
  exact lv_imul C.ex C.by (C.dec h) (k p l e R s m args below meth c D cA base sp n0 s0 Z C fin H locs lsA cells slots hA hL)
set_option maxHeartbeats 400000 in
theorem Y_iand {x y : Int32} (i : Nat) (h : (m_t M)[i]? = some (pc, .iand, 1)) (hp : pc + 1 = pc2) (k : Y G M cap pc2 ls (.int (x &&& y) :: st) σ Q) : Y G M cap pc ls (.int y :: .int x :: st) σ Q := by
  intro p l e R s m args below meth c D cA base sp n0 s0 Z C fin H locs lsA cells slots hA hL
  subst hp
  exact lv_iand C.ex C.by (C.dec h) (k p l e R s m args below meth c D cA base sp n0 s0 Z C fin H locs lsA cells slots hA hL)
set_option maxHeartbeats 400000 in
theorem Y_ishl {x y : Int32} (i : Nat) (h : (m_t M)[i]? = some (pc, .ishl, 1)) (hp : pc + 1 = pc2) (k : Y G M cap pc2 ls (.int (x <<< (y &&& 31)) :: st) σ Q) : Y G M cap pc ls (.int y :: .int x :: st) σ Q := by
  intro p l e R s m args below meth c D cA base sp n0 s0 Z C fin H locs lsA cells slots hA hL
  subst hp
  exact lv_ishl C.ex C.by (C.dec h) (k p l e R s m args below meth c D cA base sp n0 s0 Z C fin H locs lsA cells slots hA hL)
set_option maxHeartbeats 400000 in
theorem Y_ishr {x y : Int32} (i : Nat) (h : (m_t M)[i]? = some (pc, .ishr, 1)) (hp : pc + 1 = pc2) (k : Y G M cap pc2 ls (.int (x >>> (y &&& 31)) :: st) σ Q) : Y G M cap pc ls (.int y :: .int x :: st) σ Q := by
  intro p l e R s m args below meth c D cA base sp n0 s0 Z C fin H locs lsA cells slots hA hL
  subst hp
  exact lv_ishr C.ex C.by (C.dec h) (k p l e R s m args below meth c D cA base sp n0 s0 Z C fin H locs lsA cells slots hA hL)
set_option maxHeartbeats 400000 in
theorem Y_idiv {x y : Int32} (i : Nat) (h : (m_t M)[i]? = some (pc, .idiv, 1)) (hp : pc + 1 = pc2) (hne : ¬ y = 0) (k : Y G M cap pc2 ls (.int (x / y) :: st) σ Q) : Y G M cap pc ls (.int y :: .int x :: st) σ Q := by
  intro p l e R s m args below meth c D cA base sp n0 s0 Z C fin H locs lsA cells slots hA hL
  subst hp
  exact lv_idiv C.ex C.by (C.dec h) hne (k p l e R s m args below meth c D cA base sp n0 s0 Z C fin H locs lsA cells slots hA hL)
set_option maxHeartbeats 400000 in
theorem Y_irem {x y : Int32} (i : Nat) (h : (m_t M)[i]? = some (pc, .irem, 1)) (hp : pc + 1 = pc2) (hne : ¬ y = 0) (k : Y G M cap pc2 ls (.int (x - x / y * y) :: st) σ Q) : Y G M cap pc ls (.int y :: .int x :: st) σ Q := by
  intro p l e R s m args below meth c D cA base sp n0 s0 Z C fin H locs lsA cells slots hA hL
  subst hp
  exact lv_irem C.ex C.by (C.dec h) hne (k p l e R s m args below meth c D cA base sp n0 s0 Z C fin H locs lsA cells slots hA hL)
set_option maxHeartbeats 400000 in
theorem Y_i2l {x : Int32} {v : Int64} (i : Nat) (h : (m_t M)[i]? = some (pc, .i2l, 1)) (hp : pc + 1 = pc2) (hv : x.toInt64 = v) (k : Y G M cap pc2 ls (.long v :: st) σ Q) : Y G M cap pc ls (.int x :: st) σ Q := by
  intro p l e R s m args below meth c D cA base sp n0 s0 Z C fin H locs lsA cells slots hA hL
  subst hp
  exact lv_i2l C.ex C.by (C.dec h) hv (k p l e R s m args below meth c D cA base sp n0 s0 Z C fin H locs lsA cells slots hA hL)
set_option maxHeartbeats 400000 in
theorem Y_i2b {x v : Int32} (i : Nat) (h : (m_t M)[i]? = some (pc, .i2b, 1)) (hp : pc + 1 = pc2) (hv : x.toInt8.toInt32 = v) (k : Y G M cap pc2 ls (.int v :: st) σ Q) : Y G M cap pc ls (.int x :: st) σ Q := by
  intro p l e R s m args below meth c D cA base sp n0 s0 Z C fin H locs lsA cells slots hA hL
  subst hp
  exact lv_i2b C.ex C.by (C.dec h) hv (k p l e R s m args below meth c D cA base sp n0 s0 Z C fin H locs lsA cells slots hA hL)
set_option maxHeartbeats 400000 in
theorem Y_ladd {x y : Int64} (i : Nat) (h : (m_t M)[i]? = some (pc, .ladd, 1)) (hp : pc + 1 = pc2) (k : Y G M cap pc2 ls (.long (x + y) :: st) σ Q) : Y G M cap pc ls (.long y :: .long x :: st) σ Q := by
  intro p l e R s m args below meth c D cA base sp n0 s0 Z C fin H locs lsA cells slots hA hL
  subst hp
  exact lv_ladd C.ex C.by (C.dec h) (k p l e R s m args below meth c D cA base sp n0 s0 Z C fin H locs lsA cells slots hA hL)
set_option maxHeartbeats 400000 in
theorem Y_lcmp {x y : Int64} (i : Nat) (h : (m_t M)[i]? = some (pc, .lcmp, 1)) (hp : pc + 1 = pc2) (k : Y G M cap pc2 ls (.int (lg_cmp x y) :: st) σ Q) : Y G M cap pc ls (.long y :: .long x :: st) σ Q := by
  intro p l e R s m args below meth c D cA base sp n0 s0 Z C fin H locs lsA cells slots hA hL
  subst hp
  exact W.lcmp C.ex C.by (C.dec h) (k p l e R s m args below meth c D cA base sp n0 s0 Z C fin H locs lsA cells slots hA hL)
set_option maxHeartbeats 400000 in
theorem Y_dup {v : Value} (i : Nat) (h : (m_t M)[i]? = some (pc, .dup, 1)) (hp : pc + 1 = pc2) (hc : v.category = 1) (k : Y G M cap pc2 ls (v :: v :: st) σ Q) : Y G M cap pc ls (v :: st) σ Q := by
  intro p l e R s m args below meth c D cA base sp n0 s0 Z C fin H locs lsA cells slots hA hL
  subst hp
  exact lv_dup C.ex C.by (C.dec h) (by rw [tr_cat]; exact hc) (k p l e R s m args below meth c D cA base sp n0 s0 Z C fin H locs lsA cells slots hA hL)
set_option maxHeartbeats 400000 in
theorem Y_pop {v : Value} (i : Nat) (h : (m_t M)[i]? = some (pc, .pop, 1)) (hp : pc + 1 = pc2) (hc : v.category = 1) (k : Y G M cap pc2 ls (st) σ Q) : Y G M cap pc ls (v :: st) σ Q := by
  intro p l e R s m args below meth c D cA base sp n0 s0 Z C fin H locs lsA cells slots hA hL
  subst hp
  exact lv_pop C.ex C.by (C.dec h) (by rw [tr_cat]; exact hc) (k p l e R s m args below meth c D cA base sp n0 s0 Z C fin H locs lsA cells slots hA hL)
set_option maxHeartbeats 400000 in
theorem Y_iload_n {j : Fin 4} {x : Int32} (i : Nat) (h : (m_t M)[i]? = some (pc, .iload_n j, 1)) (hp : pc + 1 = pc2) (hl : ls[(j : Nat)]? = some (some (.int x))) (k : Y G M cap pc2 ls (.int x :: st) σ Q) : Y G M cap pc ls st σ Q := by
  intro p l e R s m args below meth c D cA base sp n0 s0 Z C fin H locs lsA cells slots hA hL
  subst hp
  exact lv_iload_n C.ex C.by (C.dec h) rfl (hL.2.2.2 _ _ hl).1 (k p l e R s m args below meth c D cA base sp n0 s0 Z C fin H locs lsA cells slots hA hL)
set_option maxHeartbeats 400000 in
theorem Y_iload {j : Nat} {x : Int32} (i : Nat) (h : (m_t M)[i]? = some (pc, .iload j, 2)) (hp : pc + 2 = pc2) (hl : ls[j]? = some (some (.int x))) (k : Y G M cap pc2 ls (.int x :: st) σ Q) : Y G M cap pc ls st σ Q := by
  intro p l e R s m args below meth c D cA base sp n0 s0 Z C fin H locs lsA cells slots hA hL
  subst hp
  exact lv_iload C.ex C.by (C.dec h) (hL.2.2.2 _ _ hl).1 (k p l e R s m args below meth c D cA base sp n0 s0 Z C fin H locs lsA cells slots hA hL)
set_option maxHeartbeats 400000 in
theorem Y_aload_n {j : Fin 4} {x : Nat} (i : Nat) (h : (m_t M)[i]? = some (pc, .aload_n j, 1)) (hp : pc + 1 = pc2) (hl : ls[(j : Nat)]? = some (some (.ref x))) (k : Y G M cap pc2 ls (.ref x :: st) σ Q) : Y G M cap pc ls st σ Q := by
  intro p l e R s m args below meth c D cA base sp n0 s0 Z C fin H locs lsA cells slots hA hL
  subst hp
  exact lv_aload_n C.ex C.by (C.dec h) rfl (hL.2.2.2 _ _ hl).1 (k p l e R s m args below meth c D cA base sp n0 s0 Z C fin H locs lsA cells slots hA hL)
set_option maxHeartbeats 400000 in
theorem Y_aload {j : Nat} {x : Nat} (i : Nat) (h : (m_t M)[i]? = some (pc, .aload j, 2)) (hp : pc + 2 = pc2) (hl : ls[j]? = some (some (.ref x))) (k : Y G M cap pc2 ls (.ref x :: st) σ Q) : Y G M cap pc ls st σ Q := by
  intro p l e R s m args below meth c D cA base sp n0 s0 Z C fin H locs lsA cells slots hA hL
  subst hp
  exact lv_aload C.ex C.by (C.dec h) (hL.2.2.2 _ _ hl).1 (k p l e R s m args below meth c D cA base sp n0 s0 Z C fin H locs lsA cells slots hA hL)
set_option maxHeartbeats 400000 in
theorem Y_istore_n {j : Fin 4} {x : Int32} (i : Nat) (h : (m_t M)[i]? = some (pc, .istore_n j, 1)) (hp : pc + 1 = pc2) (hi : (j : Nat) < ls.length) (hs : ls.set (j : Nat) (some (.int x)) = ls2) (k : Y G M cap pc2 ls2 st σ Q) : Y G M cap pc ls (.int x :: st) σ Q := by
  intro p l e R s m args below meth c D cA base sp n0 s0 Z C fin H locs lsA cells slots hA hL
  subst hp; subst hs
  exact lv_istore_n C.ex C.by (C.dec h) rfl hL.has (by rw [← hL.1]; exact hi) rfl (fun lsB hB => k p l e R s m args below meth c D cA base sp n0 s0 Z C fin H locs lsB cells slots hA (hL.put (v := .int x) rfl hi hB))
set_option maxHeartbeats 400000 in
theorem Y_istore {j : Nat} {x : Int32} (i : Nat) (h : (m_t M)[i]? = some (pc, .istore j, 2)) (hp : pc + 2 = pc2) (hi : j < ls.length) (hs : ls.set j (some (.int x)) = ls2) (k : Y G M cap pc2 ls2 st σ Q) : Y G M cap pc ls (.int x :: st) σ Q := by
  intro p l e R s m args below meth c D cA base sp n0 s0 Z C fin H locs lsA cells slots hA hL
  subst hp; subst hs
  exact lv_istore C.ex C.by (C.dec h) hL.has (by rw [← hL.1]; exact hi) rfl (fun lsB hB => k p l e R s m args below meth c D cA base sp n0 s0 Z C fin H locs lsB cells slots hA (hL.put (v := .int x) rfl hi hB))
set_option maxHeartbeats 400000 in
theorem Y_astore_n {j : Fin 4} {x : Nat} (i : Nat) (h : (m_t M)[i]? = some (pc, .astore_n j, 1)) (hp : pc + 1 = pc2) (hi : (j : Nat) < ls.length) (hs : ls.set (j : Nat) (some (.ref x)) = ls2) (k : Y G M cap pc2 ls2 st σ Q) : Y G M cap pc ls (.ref x :: st) σ Q := by
  intro p l e R s m args below meth c D cA base sp n0 s0 Z C fin H locs lsA cells slots hA hL
  subst hp; subst hs
  exact lv_astore_n C.ex C.by (C.dec h) rfl hL.has (by rw [← hL.1]; exact hi) rfl (fun lsB hB => k p l e R s m args below meth c D cA base sp n0 s0 Z C fin H locs lsB cells slots hA (hL.put (v := .ref x) rfl hi hB))
set_option maxHeartbeats 400000 in
theorem Y_astore {j : Nat} {x : Nat} (i : Nat) (h : (m_t M)[i]? = some (pc, .astore j, 2)) (hp : pc + 2 = pc2) (hi : j < ls.length) (hs : ls.set j (some (.ref x)) = ls2) (k : Y G M cap pc2 ls2 st σ Q) : Y G M cap pc ls (.ref x :: st) σ Q := by
  intro p l e R s m args below meth c D cA base sp n0 s0 Z C fin H locs lsA cells slots hA hL
  subst hp; subst hs
  exact lv_astore C.ex C.by (C.dec h) hL.has (by rw [← hL.1]; exact hi) rfl (fun lsB hB => k p l e R s m args below meth c D cA base sp n0 s0 Z C fin H locs lsB cells slots hA (hL.put (v := .ref x) rfl hi hB))
set_option maxHeartbeats 400000 in
theorem Y_iinc {j : Nat} {n : Int} {x v : Int32} (i : Nat) (h : (m_t M)[i]? = some (pc, .iinc j n, 3)) (hp : pc + 3 = pc2) (hl : ls[j]? = some (some (.int x))) (hv : x + Int32.ofInt n = v) (hs : ls.set j (some (.int v)) = ls2) (k : Y G M cap pc2 ls2 st σ Q) : Y G M cap pc ls st σ Q := by
  intro p l e R s m args below meth c D cA base sp n0 s0 Z C fin H locs lsA cells slots hA hL
  subst hp; subst hs
  have hi : j < ls.length := (List.getElem?_eq_some_iff.mp hl).1
  have hm : (j, tr_ base sp (.int x)) ∈ al_ base sp ls := List.mem_filterMap.mpr ⟨j, List.mem_range.mpr hi, by rw [hl]; rfl⟩
  obtain ⟨t, ht⟩ := List.getElem?_of_mem hm
  exact lv_iinc C.ex C.by (C.dec h) hL.has ht hv (by rw [← hL.1]; exact hi) rfl (fun lsB hB => k p l e R s m args below meth c D cA base sp n0 s0 Z C fin H locs lsB cells slots hA (hL.put (v := .int v) rfl hi hB))
set_option maxHeartbeats 400000 in
theorem Y_goto {off : Int} (i : Nat) (h : (m_t M)[i]? = some (pc, .goto off, 3)) (ht : (pc : Int) + off = (pc2 : Int)) (k : Y G M cap pc2 ls st σ Q) : Y G M cap pc ls st σ Q := by
  intro p l e R s m args below meth c D cA base sp n0 s0 Z C fin H locs lsA cells slots hA hL
  exact lv_goto C.ex C.by (C.dec h) ht (k p l e R s m args below meth c D cA base sp n0 s0 Z C fin H locs lsA cells slots hA hL)
set_option maxHeartbeats 400000 in
theorem Y_if_eq {off : Int} {x : Int32} {tgt : Nat} (i : Nat) (h : (m_t M)[i]? = some (pc, .ifCond .eq off, 3)) (hp : pc + 3 = pc2) (ht : (pc : Int) + off = (tgt : Int)) (kt : x = 0 → Y G M cap tgt ls st σ Q) (kf : ¬ x = 0 → Y G M cap pc2 ls st σ Q) : Y G M cap pc ls (.int x :: st) σ Q := by
  intro p l e R s m args below meth c D cA base sp n0 s0 Z C fin H locs lsA cells slots hA hL
  subst hp
  exact lv_if_eq C.ex C.by (C.dec h) ht (fun hq => kt hq p l e R s m args below meth c D cA base sp n0 s0 Z C fin H locs lsA cells slots hA hL) (fun hq => kf hq p l e R s m args below meth c D cA base sp n0 s0 Z C fin H locs lsA cells slots hA hL)
set_option maxHeartbeats 400000 in
theorem Y_if_ne {off : Int} {x : Int32} {tgt : Nat} (i : Nat) (h : (m_t M)[i]? = some (pc, .ifCond .ne off, 3)) (hp : pc + 3 = pc2) (ht : (pc : Int) + off = (tgt : Int)) (kt : ¬ x = 0 → Y G M cap tgt ls st σ Q) (kf : x = 0 → Y G M cap pc2 ls st σ Q) : Y G M cap pc ls (.int x :: st) σ Q := by
  intro p l e R s m args below meth c D cA base sp n0 s0 Z C fin H locs lsA cells slots hA hL
  subst hp
  exact lv_if_ne C.ex C.by (C.dec h) ht (fun hq => kt hq p l e R s m args below meth c D cA base sp n0 s0 Z C fin H locs lsA cells slots hA hL) (fun hq => kf hq p l e R s m args below meth c D cA base sp n0 s0 Z C fin H locs lsA cells slots hA hL)
set_option maxHeartbeats 400000 in
theorem Y_if_lt {off : Int} {x : Int32} {tgt : Nat} (i : Nat) (h : (m_t M)[i]? = some (pc, .ifCond .lt off, 3)) (hp : pc + 3 = pc2) (ht : (pc : Int) + off = (tgt : Int)) (kt : x < 0 → Y G M cap tgt ls st σ Q) (kf : ¬ x < 0 → Y G M cap pc2 ls st σ Q) : Y G M cap pc ls (.int x :: st) σ Q := by
  intro p l e R s m args below meth c D cA base sp n0 s0 Z C fin H locs lsA cells slots hA hL
  subst hp
  exact lv_if_lt C.ex C.by (C.dec h) ht (fun hq => kt hq p l e R s m args below meth c D cA base sp n0 s0 Z C fin H locs lsA cells slots hA hL) (fun hq => kf hq p l e R s m args below meth c D cA base sp n0 s0 Z C fin H locs lsA cells slots hA hL)
set_option maxHeartbeats 400000 in
theorem Y_if_ge {off : Int} {x : Int32} {tgt : Nat} (i : Nat) (h : (m_t M)[i]? = some (pc, .ifCond .ge off, 3)) (hp : pc + 3 = pc2) (ht : (pc : Int) + off = (tgt : Int)) (kt : 0 ≤ x → Y G M cap tgt ls st σ Q) (kf : ¬ 0 ≤ x → Y G M cap pc2 ls st σ Q) : Y G M cap pc ls (.int x :: st) σ Q := by
  intro p l e R s m args below meth c D cA base sp n0 s0 Z C fin H locs lsA cells slots hA hL
  subst hp
  exact lv_if_ge C.ex C.by (C.dec h) ht (fun hq => kt hq p l e R s m args below meth c D cA base sp n0 s0 Z C fin H locs lsA cells slots hA hL) (fun hq => kf hq p l e R s m args below meth c D cA base sp n0 s0 Z C fin H locs lsA cells slots hA hL)
set_option maxHeartbeats 400000 in
theorem Y_if_gt {off : Int} {x : Int32} {tgt : Nat} (i : Nat) (h : (m_t M)[i]? = some (pc, .ifCond .gt off, 3)) (hp : pc + 3 = pc2) (ht : (pc : Int) + off = (tgt : Int)) (kt : 0 < x → Y G M cap tgt ls st σ Q) (kf : ¬ 0 < x → Y G M cap pc2 ls st σ Q) : Y G M cap pc ls (.int x :: st) σ Q := by
  intro p l e R s m args below meth c D cA base sp n0 s0 Z C fin H locs lsA cells slots hA hL
  subst hp
  exact lv_if_gt C.ex C.by (C.dec h) ht (fun hq => kt hq p l e R s m args below meth c D cA base sp n0 s0 Z C fin H locs lsA cells slots hA hL) (fun hq => kf hq p l e R s m args below meth c D cA base sp n0 s0 Z C fin H locs lsA cells slots hA hL)
set_option maxHeartbeats 400000 in
theorem Y_if_le {off : Int} {x : Int32} {tgt : Nat} (i : Nat) (h : (m_t M)[i]? = some (pc, .ifCond .le off, 3)) (hp : pc + 3 = pc2) (ht : (pc : Int) + off = (tgt : Int)) (kt : x ≤ 0 → Y G M cap tgt ls st σ Q) (kf : ¬ x ≤ 0 → Y G M cap pc2 ls st σ Q) : Y G M cap pc ls (.int x :: st) σ Q := by
  intro p l e R s m args below meth c D cA base sp n0 s0 Z C fin H locs lsA cells slots hA hL
  subst hp
  exact lv_if_le C.ex C.by (C.dec h) ht (fun hq => kt hq p l e R s m args below meth c D cA base sp n0 s0 Z C fin H locs lsA cells slots hA hL) (fun hq => kf hq p l e R s m args below meth c D cA base sp n0 s0 Z C fin H locs lsA cells slots hA hL)
set_option maxHeartbeats 400000 in
theorem Y_icmp_eq {off : Int} {x y : Int32} {tgt : Nat} (i : Nat) (h : (m_t M)[i]? = some (pc, .if_icmp .eq off, 3)) (hp : pc + 3 = pc2) (ht : (pc : Int) + off = (tgt : Int)) (kt : x = y → Y G M cap tgt ls st σ Q) (kf : ¬ x = y → Y G M cap pc2 ls st σ Q) : Y G M cap pc ls (.int y :: .int x :: st) σ Q := by
  intro p l e R s m args below meth c D cA base sp n0 s0 Z C fin H locs lsA cells slots hA hL
  subst hp
  exact lv_icmp_eq C.ex C.by (C.dec h) ht (fun hq => kt hq p l e R s m args below meth c D cA base sp n0 s0 Z C fin H locs lsA cells slots hA hL) (fun hq => kf hq p l e R s m args below meth c D cA base sp n0 s0 Z C fin H locs lsA cells slots hA hL)
set_option maxHeartbeats 400000 in
theorem Y_icmp_ne {off : Int} {x y : Int32} {tgt : Nat} (i : Nat) (h : (m_t M)[i]? = some (pc, .if_icmp .ne off, 3)) (hp : pc + 3 = pc2) (ht : (pc : Int) + off = (tgt : Int)) (kt : ¬ x = y → Y G M cap tgt ls st σ Q) (kf : x = y → Y G M cap pc2 ls st σ Q) : Y G M cap pc ls (.int y :: .int x :: st) σ Q := by
  intro p l e R s m args below meth c D cA base sp n0 s0 Z C fin H locs lsA cells slots hA hL
  subst hp
  exact lv_icmp_ne C.ex C.by (C.dec h) ht (fun hq => kt hq p l e R s m args below meth c D cA base sp n0 s0 Z C fin H locs lsA cells slots hA hL) (fun hq => kf hq p l e R s m args below meth c D cA base sp n0 s0 Z C fin H locs lsA cells slots hA hL)
set_option maxHeartbeats 400000 in
theorem Y_icmp_lt {off : Int} {x y : Int32} {tgt : Nat} (i : Nat) (h : (m_t M)[i]? = some (pc, .if_icmp .lt off, 3)) (hp : pc + 3 = pc2) (ht : (pc : Int) + off = (tgt : Int)) (kt : x < y → Y G M cap tgt ls st σ Q) (kf : ¬ x < y → Y G M cap pc2 ls st σ Q) : Y G M cap pc ls (.int y :: .int x :: st) σ Q := by
  intro p l e R s m args below meth c D cA base sp n0 s0 Z C fin H locs lsA cells slots hA hL
  subst hp
  exact lv_icmp_lt C.ex C.by (C.dec h) ht (fun hq => kt hq p l e R s m args below meth c D cA base sp n0 s0 Z C fin H locs lsA cells slots hA hL) (fun hq => kf hq p l e R s m args below meth c D cA base sp n0 s0 Z C fin H locs lsA cells slots hA hL)
set_option maxHeartbeats 400000 in
theorem Y_icmp_ge {off : Int} {x y : Int32} {tgt : Nat} (i : Nat) (h : (m_t M)[i]? = some (pc, .if_icmp .ge off, 3)) (hp : pc + 3 = pc2) (ht : (pc : Int) + off = (tgt : Int)) (kt : y ≤ x → Y G M cap tgt ls st σ Q) (kf : ¬ y ≤ x → Y G M cap pc2 ls st σ Q) : Y G M cap pc ls (.int y :: .int x :: st) σ Q := by
  intro p l e R s m args below meth c D cA base sp n0 s0 Z C fin H locs lsA cells slots hA hL
  subst hp
  exact lv_icmp_ge C.ex C.by (C.dec h) ht (fun hq => kt hq p l e R s m args below meth c D cA base sp n0 s0 Z C fin H locs lsA cells slots hA hL) (fun hq => kf hq p l e R s m args below meth c D cA base sp n0 s0 Z C fin H locs lsA cells slots hA hL)
set_option maxHeartbeats 400000 in
theorem Y_icmp_gt {off : Int} {x y : Int32} {tgt : Nat} (i : Nat) (h : (m_t M)[i]? = some (pc, .if_icmp .gt off, 3)) (hp : pc + 3 = pc2) (ht : (pc : Int) + off = (tgt : Int)) (kt : y < x → Y G M cap tgt ls st σ Q) (kf : ¬ y < x → Y G M cap pc2 ls st σ Q) : Y G M cap pc ls (.int y :: .int x :: st) σ Q := by
  intro p l e R s m args below meth c D cA base sp n0 s0 Z C fin H locs lsA cells slots hA hL
  subst hp
  exact lv_icmp_gt C.ex C.by (C.dec h) ht (fun hq => kt hq p l e R s m args below meth c D cA base sp n0 s0 Z C fin H locs lsA cells slots hA hL) (fun hq => kf hq p l e R s m args below meth c D cA base sp n0 s0 Z C fin H locs lsA cells slots hA hL)
set_option maxHeartbeats 400000 in
theorem Y_icmp_le {off : Int} {x y : Int32} {tgt : Nat} (i : Nat) (h : (m_t M)[i]? = some (pc, .if_icmp .le off, 3)) (hp : pc + 3 = pc2) (ht : (pc : Int) + off = (tgt : Int)) (kt : x ≤ y → Y G M cap tgt ls st σ Q) (kf : ¬ x ≤ y → Y G M cap pc2 ls st σ Q) : Y G M cap pc ls (.int y :: .int x :: st) σ Q := by
  intro p l e R s m args below meth c D cA base sp n0 s0 Z C fin H locs lsA cells slots hA hL
  subst hp
  exact lv_icmp_le C.ex C.by (C.dec h) ht (fun hq => kt hq p l e R s m args below meth c D cA base sp n0 s0 Z C fin H locs lsA cells slots hA hL) (fun hq => kf hq p l e R s m args below meth c D cA base sp n0 s0 Z C fin H locs lsA cells slots hA hL)
set_option maxHeartbeats 400000 in
theorem Y_tableIn {dflt lo hi off : Int} {offs : Array Int} {len : Nat} {x : Int32} (i : Nat) (h : (m_t M)[i]? = some (pc, .tableswitch dflt lo hi offs, len)) (h1 : ¬ x.toInt < lo) (h2 : ¬ hi < x.toInt) (ho : offs[(x.toInt - lo).toNat]? = some off) (ht : (pc : Int) + off = (pc2 : Int)) (k : Y G M cap pc2 ls st σ Q) : Y G M cap pc ls (.int x :: st) σ Q := by
  intro p l e R s m args below meth c D cA base sp n0 s0 Z C fin H locs lsA cells slots hA hL
  exact lv_tableIn C.ex C.by (C.dec h) h1 h2 ho ht (k p l e R s m args below meth c D cA base sp n0 s0 Z C fin H locs lsA cells slots hA hL)
set_option maxHeartbeats 400000 in
theorem Y_tableOut {dflt lo hi : Int} {offs : Array Int} {len : Nat} {x : Int32} (i : Nat) (h : (m_t M)[i]? = some (pc, .tableswitch dflt lo hi offs, len)) (h1 : x.toInt < lo ∨ hi < x.toInt) (ht : (pc : Int) + dflt = (pc2 : Int)) (k : Y G M cap pc2 ls st σ Q) : Y G M cap pc ls (.int x :: st) σ Q := by
  intro p l e R s m args below meth c D cA base sp n0 s0 Z C fin H locs lsA cells slots hA hL
  exact lv_tableOut C.ex C.by (C.dec h) h1 ht (k p l e R s m args below meth c D cA base sp n0 s0 Z C fin H locs lsA cells slots hA hL)
set_option maxHeartbeats 400000 in
theorem Y_lookup {dflt off : Int} {ps : Array (Int × Int)} {len : Nat} {x : Int32} (i : Nat) (h : (m_t M)[i]? = some (pc, .lookupswitch dflt ps, len)) (hq : (ps.toList.zip (ps.toList.drop 1)).all (fun (a, next) => a.1 < next.1) = true) (ho : Op.lookupswitch.offset ps.toList dflt x.toInt = off) (ht : (pc : Int) + off = (pc2 : Int)) (k : Y G M cap pc2 ls st σ Q) : Y G M cap pc ls (.int x :: st) σ Q := by
  intro p l e R s m args below meth c D cA base sp n0 s0 Z C fin H locs lsA cells slots hA hL
  exact lv_lookup C.ex C.by (C.dec h) hq ho ht (k p l e R s m args below meth c D cA base sp n0 s0 Z C fin H locs lsA cells slots hA hL)
set_option maxHeartbeats 400000 in
theorem Y_ldc {index : Nat} {v : Int32} (i : Nat) (h : (m_t M)[i]? = some (pc, .ldc index, 2)) (hp : pc + 2 = pc2) (hw : Cond.constant (m_y M).cls index v ∈ Tb) (k : Y G M cap pc2 ls (.int v :: st) σ Q) : Y G M cap pc ls st σ Q := by
  intro p l e R s m args below meth c D cA base sp n0 s0 Z C fin H locs lsA cells slots hA hL
  subst hp
  exact lv_ldc C.ex C.by C.ow (C.ts _ hw) (C.dec h) (k p l e R s m args below meth c D cA base sp n0 s0 Z C fin H locs lsA cells slots hA hL)
set_option maxHeartbeats 400000 in
theorem Y_iret {x : Int32} {ty : FieldType} (i : Nat) (h : (m_t M)[i]? = some (pc, .ireturn, 1)) (hr : m_r M = some ty) (hn : narrow ty (.int x) = .int x) (hq : Q (some (.int x)) σ) : Y G M cap pc ls [.int x] σ Q := by
  intro p l e R s m args below meth c D cA base sp n0 s0 Z C fin H locs lsA cells slots hA hL
  exact fin H locs lsA cells slots pc [.int x] (some (.int x)) σ hA (Or.inl ⟨x, ty, C.dec h, hr, hn, rfl, rfl⟩) hq
set_option maxHeartbeats 400000 in
theorem Y_aret {a : Nat} {ty : FieldType} (i : Nat) (h : (m_t M)[i]? = some (pc, .areturn, 1)) (hr : m_r M = some ty) (hn : (∃ n, ty = .object n) ∨ ∃ t, ty = .array t) (hq : Q (some (.ref a)) σ) : Y G M cap pc ls [.ref a] σ Q := by
  intro p l e R s m args below meth c D cA base sp n0 s0 Z C fin H locs lsA cells slots hA hL
  exact fin H locs lsA cells slots pc [.ref a] (some (.ref a)) σ hA (Or.inr (Or.inl ⟨a, ty, C.dec h, hr, hn, rfl, rfl⟩)) hq
set_option maxHeartbeats 400000 in
theorem Y_vret (i : Nat) (h : (m_t M)[i]? = some (pc, .return_, 1)) (hr : m_r M = none) (hq : Q none σ) : Y G M cap pc ls [] σ Q := by
  intro p l e R s m args below meth c D cA base sp n0 s0 Z C fin H locs lsA cells slots hA hL
  exact fin H locs lsA cells slots pc [] none σ hA (Or.inr (Or.inr ⟨C.dec h, hr, rfl, rfl⟩)) hq
end Y1
