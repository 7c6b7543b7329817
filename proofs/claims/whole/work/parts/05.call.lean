/-! calls -/
set_option maxHeartbeats 400000 in
theorem nw_is : ∀ w ∈ NwTb, ∃ (a : String) (i : Nat) (x : MethodName) (h : String), w = .methodLinkNest a i x h := by
  intro w hw
  simp only [NwTb, List.mem_cons, List.not_mem_nil, or_false] at hw
  rcases hw with rfl | rfl | rfl | rfl | rfl | rfl | rfl | rfl | rfl | rfl | rfl <;> exact ⟨_, _, _, _, rfl⟩
set_option maxHeartbeats 400000 in
theorem nw_.warm {s U : State} (hW : s.WarmedH U.vm) (h : nw_ s) : nw_ U := by
  intro w hw
  have h1 := h w hw
  obtain ⟨a, i, x, ho, rfl⟩ := nw_is w hw
  exact va_Nw.warmM hW h1
set_option maxHeartbeats 400000 in
theorem nw_.same {u U : State} (hv : u.vm = U.vm) (h : nw_ u) : nw_ U := by
  intro w hw
  have h1 := h w hw
  obtain ⟨a, i, x, ho, rfl⟩ := nw_is w hw
  exact va_Nw.same rfl hv h1
set_option maxHeartbeats 400000 in
theorem ao_.moved {u U : State} (hv : u.vm.Alike U.vm) (h : ao_ u) : ao_ U := ⟨va_AO.moved hv h.1, va_AO.moved hv h.2.1, va_AO.moved hv h.2.2.1, va_AO.moved hv h.2.2.2⟩
set_option maxHeartbeats 400000 in
theorem oa_.moved {G : Nat × (Nat → Int32)} {base : Nat} {sp : Nat → Nat} {u U : State} {H : Heap} (hv : u.vm.Alike U.vm) (h : oa_ G base sp u H) : oa_ G base sp U H := ⟨fun j hj => va_T.moved hv (h.1 j hj), va_Z.moved hv h.2⟩
set_option maxHeartbeats 400000 in
theorem oa_.kept {G : Nat × (Nat → Int32)} {base : Nat} {sp : Nat → Nat} {U : State} {H H1 : Heap} (h : oa_ G base sp U H) (hq : ∀ a : Nat, a < H.size → ¬ base ≤ a → H1[a]? = H[a]?) : oa_ G base sp U H1 := ⟨fun j hj => va_T.kept (h.1 j hj) hq, va_Z.kept h.2 hq⟩
set_option maxHeartbeats 400000 in
theorem St_.warm {G : Nat × (Nat → Int32)} {D : va_G} {cA : Nat → ClassId} {base : Nat} {sp : Nat → Nat} {s U : State} {H H1 : Heap} (hW : s.WarmedH U.vm) (hq : ∀ a : Nat, a < H.size → ¬ base ≤ a → H1[a]? = H[a]?) (h : St_ G D cA base sp s H) : St_ G D cA base sp U H1 :=
  ⟨va_K.moved hW.alike h.1, h.2.1.warm hW, h.2.2.1.moved hW.alike, (h.2.2.2.moved hW.alike).kept hq⟩
set_option maxHeartbeats 400000 in
theorem St_.same {G : Nat × (Nat → Int32)} {D : va_G} {cA : Nat → ClassId} {base : Nat} {sp : Nat → Nat} {u U : State} {H : Heap} (hv : u.vm = U.vm) (h : St_ G D cA base sp u H) : St_ G D cA base sp U H := by
  have hA : u.vm.Alike U.vm := by rw [hv]; exact Vm.Alike.refl _
  exact ⟨va_K.moved hA h.1, h.2.1.same hv, h.2.2.1.moved hA, h.2.2.2.moved hA⟩
def Mok (M : Mi) : Prop := plainName (m_y M).cls = true ∧ Cond.code (m_y M) (m_c M) (m_l M) (m_r M) ∈ Tb ∧ (∀ q ∈ m_t M, decode (m_c M) q.1 = .ok q.2) ∧ Cond.initialized (m_y M).cls ∈ Tb ∧ ((m_y M).cls ≠ "java/lang/invoke/MethodHandle" ∧ (m_y M).cls ≠ "java/lang/invoke/VarHandle")
def en_ (M : Mi) (as : List Value) : List (Option Value) := as.map some ++ List.replicate (m_l M - as.length) none
def qc_ (D : va_G) (cA : Nat → ClassId) (base : Nat) (sp : Nat → Nat) (Q : Option Value → Sg → Prop) : Array Value → State → Outcome → State → Prop := fun _ st oc t =>
  ∃ (v : Option Value) (σ' : Sg), oc = .returned (v.map (tr_ base sp)) ∧ Q v σ' ∧ va_P D vwCl (wd_ cA base σ') t.heap ∧ σ'.1.length ≤ 1000000 ∧ va_F (fun q => base ≤ q) st t
def pr_ (G : Nat × (Nat → Int32)) (D : va_G) (cA : Nat → ClassId) (base : Nat) (sp : Nat → Nat) (σ : Sg) (U : State) : Prop := St_ G D cA base sp U U.heap ∧ U.heap.size = base + σ.1.length ∧ σ.1.length ≤ 1000000 ∧ va_P D vwCl (wd_ cA base σ) U.heap
set_option maxHeartbeats 400000 in
theorem cat_sl (vs : List Value) (h : ∀ v ∈ vs, v.category = 1) : lg_sl vs = vs.map Slot.val := by
  induction vs with
  | nil => rfl
  | cons v t ih =>
    have h1 := h v List.mem_cons_self
    have h2 := ih (fun w hw => h w (List.mem_cons_of_mem _ hw))
    unfold lg_sl at h2 ⊢
    rw [List.flatMap_cons, h2]
    simp [h1]
set_option maxHeartbeats 400000 in
theorem en_Lh {M : Mi} {as : List Value} {base : Nat} {sp : Nat → Nat} (hc : ∀ v ∈ as, v.category = 1) (hl : as.length ≤ m_l M) :
    Lh base sp ((lg_sl (as.map (tr_ base sp)) ++ List.replicate (m_l M - (lg_sl (as.map (tr_ base sp))).length) Slot.unset).toArray) (m_l M) (en_ M as) := by
  have hc2 : ∀ v ∈ as.map (tr_ base sp), v.category = 1 := by
    intro v hv
    obtain ⟨w, hw, rfl⟩ := List.mem_map.mp hv
    rw [tr_cat]; exact hc w hw
  have he := cat_sl _ hc2
  have hh := lv_entry (as.map (tr_ base sp)) (n := m_l M) (by rw [he]; simpa using hl)
  refine ⟨by simp [en_]; omega, hh.1, hh.2.1, fun i v hv => ?_⟩
  rw [he]
  have hi : i < as.length := by
    rcases Nat.lt_or_ge i as.length with h | h
    · exact h
    · exfalso
      unfold en_ at hv
      rw [List.getElem?_append_right (by simpa using h)] at hv
      have := List.mem_of_getElem? hv
      simp at this
  unfold en_ at hv
  rw [List.getElem?_append_left (by simpa using hi), List.getElem?_map, List.getElem?_eq_getElem hi] at hv
  simp only [Option.map_some, Option.some.injEq] at hv
  subst hv
  refine ⟨?_, hc _ (List.getElem_mem hi)⟩
  rw [List.getElem?_toArray, List.getElem?_append_left (by simpa using hi)]
  simp [hi]
set_option maxHeartbeats 400000 in
theorem Y.met {G : Nat × (Nat → Int32)} {M : Mi} {cap : Nat × Nat} {as : List Value} {σ : Sg} {Q : Option Value → Sg → Prop} {mc ms : Nat} (l : Launch) (D : va_G) (cA : Nat → ClassId) (base : Nat) (sp : Nat → Nat) (hok : Mok M) (hc : ∀ v ∈ as, v.category = 1) (hl : as.length ≤ m_l M) (hcap : cap.1 ≤ σ.1.length + mc ∧ cap.2 ≤ sl_ σ.1 + ms)
    (hY : Y G M cap 0 (en_ M as) [] σ Q) (hq : ∀ v σ', Q v σ' → σ'.1.length = σ.1.length + mc ∧ sl_ σ'.1 = sl_ σ.1 + ms) :
    Met l (m_y M) (Cond.code (m_y M) (m_c M) (m_l M) (m_r M) :: Tb) ({ frames := m_f M, cells := mc, slots := ms, locals := m_w M }) (va_Pc (as.map (tr_ base sp)) (pr_ G D cA base sp σ)) (qc_ D cA base sp Q) mc ms (fun q => base ≤ q) := by
  refine Met.ofW (cc := m_c M) (maxL := m_l M) (ret := m_r M) hok.1 rfl ?_
  intro p e s m args below meth c s₁ B hml hv
  obtain ⟨rfl, hst, hsz, hln, hP⟩ := hv
  have hts0 := atoms_spec (ws := Cond.code (m_y M) (m_c M) (m_l M) (m_r M) :: Tb) B.pre
  have hts : ∀ w ∈ Tb, w.before (as.map (tr_ base sp)).toArray s = true := fun w hw => hts0 w (List.mem_cons_of_mem _ hw)
  have hown : s.vm.findClass (m_y M).cls = some m.cls := findClass_of_methodNamed B.named
  have hnm : meth.name = (m_y M).name := (name_of_methodNamed B.named B.method).1
  have hlocks := B.notSynchronized
  have hr := B.returns
  have hC : Cx G M cap p (headSpec (Cond.code (m_y M) (m_c M) (m_l M) (m_r M) :: Tb) { frames := m_f M, cells := mc, slots := ms, locals := m_w M }).room s m (as.map (tr_ base sp)).toArray meth c D cA base sp σ.1.length (sl_ σ.1) :=
    ⟨⟨B.exec, B.bytes, hml, hown, hts⟩, hok.2.2.1, (fun hi => by rw [hnm]; exact hi), ⟨Nat.le_refl _, Nat.le_refl _, hcap.1, hcap.2⟩, hst, hsz⟩
  rw [lg_entry_eq]
  refine hY p l e _ s m _ below meth c D cA base sp σ.1.length (sl_ σ.1) _ hC ?_ s.heap [] _ 0 0 ⟨hP, hln, va_S.rf, by omega, by omega, Nat.zero_le _, Nat.zero_le _⟩ (en_Lh hc hl)
  intro H locs lsA cells slots pc' st' v σ' hA hR hQ
  obtain ⟨z1, z2⟩ := hq v σ' hQ
  have hcm : cells = mc := by have := hA.2.2.2.1; omega
  have hsm : slots = ms := by have := hA.2.2.2.2.1; omega
  subst hcm; subst hsm
  have hfin : ∀ t : State, t.heap = H → qc_ D cA base sp Q (as.map (tr_ base sp)).toArray s (.returned (v.map (tr_ base sp))) t := fun t ht => ⟨v, σ', rfl, hQ, by rw [ht]; exact hA.1, hA.2.1, hA.2.2.1.F ht⟩
  rcases hR with ⟨x, ty, h1, h2, h3, rfl, rfl⟩ | ⟨a, ty, h1, h2, h3, rfl, rfl⟩ | ⟨h1, h2, rfl, rfl⟩
  · exact W.zret B.exec B.bytes (hr.trans h2) h3 (fun t ht _ => hfin t ht) hA.2.2.1.2.2 h1 hlocks
  · exact W.aret B.exec B.bytes (hr.trans h2) h3 (Or.inr ⟨_, rfl⟩) (fun t ht _ => hfin t ht) hA.2.2.1.2.2 h1 hlocks
  · exact W.vret B.exec B.bytes (hr.trans h2) (fun t ht _ => hfin t ht) hA.2.2.1.2.2 h1 hlocks
set_option maxHeartbeats 400000 in
theorem pr_blind {G : Nat × (Nat → Int32)} {D : va_G} {cA : Nat → ClassId} {base : Nat} {sp : Nat → Nat} {σ : Sg} {av : List Value} : FrameBlind (va_Pc av (pr_ G D cA base sp σ)) := by
  intro a U g mk hp
  obtain ⟨q0, q1, q2⟩ := hp
  exact ⟨q0, St_.same (u := U) (U := U.calling g mk a) rfl q1, q2⟩
set_option maxHeartbeats 400000 in
theorem pr_at {G : Nat × (Nat → Int32)} {M : Mi} {cap : Nat × Nat} {p : Program} {R : Room} {s : State} {m : MethodId} {args : Array Value} {meth : Method} {c : Code} {D : va_G} {cA : Nat → ClassId} {base : Nat} {sp : Nat → Nat} {n0 s0 : Nat} {σ : Sg} {H : Heap} {locs : List Loc} {cells slots : Nat}
    (C : Cx G M cap p R s m args meth c D cA base sp n0 s0) (hA : At_ R s D cA base n0 s0 σ H locs cells slots) (hz : H.size ≤ s.heap.size + cells) : ∀ U : State, U.heap = H → s.WarmedH U.vm → pr_ G D cA base sp σ U := by
  intro U hU hW
  have hs := hA.size C.sz hz
  refine ⟨C.st.warm hW ?_, by rw [hU]; exact hs, hA.2.1, by rw [hU]; exact hA.1⟩
  intro a h1 h2
  rw [hU]
  exact hA.2.2.1.2.1 a h1 h2
set_option maxHeartbeats 400000 in
theorem y_run {p : Program} {l : Launch} {e : Env} {R : Room} {s : State} {m : MethodId} {args : Array Value} {below : List Frame} {meth : Method} {c : Code} {H : Heap} {locs : List Loc} {cells slots : Nat} {Z : State → Prop} {D : va_G} {cA : Nat → ClassId} {base n0 s0 mc ms : Nat} {sp : Nat → Nat} {σ : Sg} {Q : Option Value → Sg → Prop} {pc : Nat} {lsA : Array Slot} {st0 rest : List Value} {a : Array Value} (hA : At_ R s D cA base n0 s0 σ H locs cells slots)
    (hr : va_Run p l e R s m args below meth c H locs cells slots mc ms (F0 m pc lsA st0) rest (qc_ D cA base sp Q a) (fun q => base ≤ q))
    (hq : ∀ v σ', Q v σ' → σ'.1.length = σ.1.length + mc ∧ sl_ σ'.1 = sl_ σ.1 + ms) (hc : cells + mc ≤ R.cells ∧ slots + ms ≤ R.slots)
    (kk : ∀ (v : Option Value) (σ' : Sg) (H1 : Heap) (locs1 : List Loc), Q v σ' → At_ R s D cA base n0 s0 σ' H1 locs1 (cells + mc) (slots + ms) → W p l e R s m args below meth c H1 locs1 (cells + mc) (slots + ms) Z (F0 m (pc + 3) lsA ((v.map (tr_ base sp)).toList ++ rest))) :
    W p l e R s m args below meth c H locs cells slots Z (F0 m pc lsA st0) := by
  intro T hT X
  obtain ⟨v, st₀, t, T', L, h0, X', hL, e1, e2, ⟨v2, σ', hv, hQ, hP, hln, hz, hk⟩, stp⟩ := hr T hT X
  cases hv
  rw [h0] at hz hk
  obtain ⟨z1, z2⟩ := hq v2 σ' hQ
  have hS := hA.2.2.1
  have hn := hA.2.2.2.1
  have hs := hA.2.2.2.2.1
  obtain ⟨t2, a1, b1⟩ := kk v2 σ' T'.heap (locs ++ L) hQ ⟨by rw [e1]; exact hP, hln, ⟨Nat.le_trans hS.1 (by rw [e1]; exact hz), fun q h1 h2 => by rw [e1, hk q (Nat.lt_of_lt_of_le h1 hS.1) h2]; exact hS.2.1 q h1 h2, fun q hq => by
      rcases List.mem_append.mp hq with h | h
      · exact hS.2.2 q h
      · exact hL q h⟩, by omega, by omega, hc.1, hc.2⟩ T' rfl X'
  exact ⟨t2, stp t2 a1, b1⟩
def lk_ (own : String) (index : Nat) (y : MethodName) : Prop := Cond.methodLink own index y ∈ Tb ∨ ∃ host, Cond.methodLinkNest own index y host ∈ NwTb
def vi_ (M : Mi) (n : Nat) : Prop := Cond.instanceMethod (m_y M) ∈ Tb ∧ Cond.selects (m_y M).cls (m_y M) (m_y M) ∈ Tb ∧ (parseMethodDescriptor (m_y M).desc).map (fun d => d.parameters.length) = some n
def vs_ (M : Mi) (n : Nat) : Prop := Cond.static (m_y M) ∈ Tb ∧ (parseMethodDescriptor (m_y M).desc).map (fun d => d.parameters.length) = some n
def vn_ (M : Mi) (n : Nat) : Prop := (m_y M).name = "<init>" ∧ m_r M = none ∧ Cond.instanceMethod (m_y M) ∈ Tb ∧ (parseMethodDescriptor (m_y M).desc).map (fun d => d.parameters.length) = some n
def qm_ (lay : Ly) (P : Option Value → Mm → Prop) : Option Value → Sg → Prop := fun v σ' => σ'.1 = lay ∧ P v σ'.2
set_option maxHeartbeats 400000 in
theorem mok_g {M : Mi} (h : Mok M) : GoodIn Tb (Cond.code (m_y M) (m_c M) (m_l M) (m_r M) :: Tb) := by
  intro w hw
  rcases List.mem_cons.mp hw with h1 | h1
  · rw [h1]; exact tb_gg _ h.2.1
  · exact tb_gg _ h1
set_option maxHeartbeats 400000 in
theorem cat_sum {base : Nat} {sp : Nat → Nat} (rest : List Value) : ((rest.map (tr_ base sp)).map fun v => v.category).sum = (rest.map fun v => v.category).sum := by
  rw [List.map_map]
  congr 1
  apply List.map_congr_left
  intro v _
  exact tr_cat base sp v
set_option maxHeartbeats 400000 in
theorem v_list {base : Nat} {sp : Nat → Nat} {v : Option Value} {rest : List Value} : (v.map (tr_ base sp)).toList ++ rest.map (tr_ base sp) = (v.toList ++ rest).map (tr_ base sp) := by
  cases v <;> rfl
section Y4
variable {G : Nat × (Nat → Int32)} {M : Mi} {cap : Nat × Nat} {pc pc2 : Nat} {ls ls2 : List (Option Value)} {st : List Value} {σ : Sg} {lay : Ly} {mm : Mm} {Q : Option Value → Sg → Prop}
set_option maxHeartbeats 400000 in
theorem Y_callV {index ci a n : Nat} {rs : List (Option Nat)} {qq : vw_C} {M2 : Mi} {as rest : List Value} {P : Option Value → Mm → Prop} (i : Nat) (h : (m_t M)[i]? = some (pc, .invokevirtual index, 3)) (hp : pc + 3 = pc2) (hM : Mok M2) (hl : lk_ (m_y M).cls index (m_y M2)) (hv : vi_ M2 as.length) (ha : lay[a]? = some (ci, n, rs)) (hci : vwCl[ci]? = some qq) (hc11 : ci < 11) (hqq : qq.1 = (m_y M2).cls) (hst : st = as.reverse ++ .ref a :: rest) (hr8 : (rest.map fun v => v.category).sum ≤ 8) (hrm : m_f M2 + 1 ≤ m_f M ∧ 8 + (m_l M2 + 11) + m_w M2 ≤ m_w M) (hca : ∀ v ∈ as, v.category = 1) (hle : as.length + 1 ≤ m_l M2) (hY : Y G M2 (0, 0) 0 (en_ M2 (.ref a :: as)) [] (lay, mm) (qm_ lay P)) (k : ∀ (v : Option Value) (m2 : Mm), P v m2 → Y G M cap pc2 ls (v.toList ++ rest) (lay, m2) Q) : Y G M cap pc ls st (lay, mm) Q := by
  intro p l e R s m args below meth c D cA base sp n0 s0 Z C fin H locs lsA cells slots hA hL
  subst hp; subst hst
  refine W_siz (fun hz => ?_)
  have hrf := C.rm.1
  have hrl := C.rm.2.1
  have hcells : cells + 0 ≤ R.cells ∧ slots + 0 ≤ R.slots := ⟨hA.2.2.2.2.2.1, hA.2.2.2.2.2.2⟩
  have hcf : ∀ v ∈ (.ref a :: as), v.category = 1 := by
    intro v hv
    rcases List.mem_cons.mp hv with h | h
    · rw [h]; rfl
    · exact hca v h
  have hmet := Y.met (mc := 0) (ms := 0) (Q := (qm_ lay P)) l D cA base sp hM hcf (by simpa using hle) ⟨Nat.zero_le _, Nat.zero_le _⟩ hY (fun v σ' hq => by rw [hq.1]; exact ⟨rfl, rfl⟩)
  have hW8 : 2 * (F0 m pc lsA []).monitorRoom + ((rest.map (tr_ base sp)).map fun v => v.category).sum ≤ 8 := lv_room (by rw [cat_sum]; exact hr8)
  have hpre := pr_at C hA hz
  have hR : ({ frames := m_f M2, cells := 0, slots := 0, locals := m_w M2 } : Room).frames + 1 ≤ R.frames ∧ 8 + (m_l M2 + 11) + ({ frames := m_f M2, cells := 0, slots := 0, locals := m_w M2 } : Room).locals ≤ R.locals := ⟨by show m_f M2 + 1 ≤ _; omega, by show 8 + (m_l M2 + 11) + m_w M2 ≤ _; omega⟩
  have hstk : List.map (tr_ base sp) (as.reverse ++ .ref a :: rest) = (as.map (tr_ base sp)).reverse ++ tr_ base sp (.ref a) :: rest.map (tr_ base sp) := by simp
  rw [hstk]
  have htr := tr_ref (base := base) (sp := sp) (At_.lt hA ha)
  rw [htr]
  rw [List.map_cons, htr] at hmet
  refine y_run (sp := sp) (a := (Value.ref (base + a) :: as.map (tr_ base sp)).toArray) (mc := 0) (ms := 0) (Q := (qm_ lay P)) (σ := (lay, mm)) (rest := rest.map (tr_ base sp)) hA ?_ (fun v σ' hq => by rw [hq.1]; exact ⟨rfl, rfl⟩) hcells (fun v σ2 H1 locs1 hQ hA2 => ?_)
  · rcases hl with hl | ⟨host, hl⟩
    · exact va_runV (n := as.length) (As := as.map (tr_ base sp)) (rest := rest.map (tr_ base sp)) C.fix hmet ⟨callB_of as.length C.ts (mok_g hM) rfl rfl rfl (C.ts _ hM.2.2.2.1) (C.ts _ hl) ⟨hM.2.2.2.2.1, hM.2.2.2.2.2, hv.2.2⟩ hR, C.ts _ hv.1, C.ts _ hv.2.1⟩ ⟨pr_blind, (by rw [← hqq]; exact va_recv (q := qq) C.st.1 hA.1 hci (he := by rw [wd_get (σ := (lay, mm)) ha, cl_o hc11])), fun U hU hW => ⟨rfl, hpre U hU hW⟩⟩ rfl (by simp) hL.2.1 rfl hW8 (C.dec h) hcells
    · exact va_runVN (n := as.length) (As := as.map (tr_ base sp)) (rest := rest.map (tr_ base sp)) C.fix hmet ⟨va_cnB as.length C.ts (mok_g hM) rfl rfl rfl (C.st.2.1 _ hl) (C.ts _ hM.2.2.2.1) ⟨hM.2.2.2.2.1, hM.2.2.2.2.2, hv.2.2⟩ hR, C.ts _ hv.1, C.ts _ hv.2.1⟩ ⟨pr_blind, (by rw [← hqq]; exact va_recv (q := qq) C.st.1 hA.1 hci (he := by rw [wd_get (σ := (lay, mm)) ha, cl_o hc11])), fun U hU hW => ⟨rfl, hpre U hU hW⟩⟩ rfl (by simp) hL.2.1 rfl hW8 (C.dec h) hcells
  · rw [v_list]
    obtain ⟨lay2, m2⟩ := σ2
    obtain ⟨hl2, hP2⟩ := hQ
    have hl2 : lay2 = lay := hl2
    subst hl2
    exact k v m2 hP2 p l e R s m args below meth c D cA base sp n0 s0 Z C fin H1 locs1 lsA cells slots hA2 hL
set_option maxHeartbeats 400000 in
theorem Y_callS {index : Nat} {M2 : Mi} {as rest : List Value} {P : Option Value → Mm → Prop} (i : Nat) (h : (m_t M)[i]? = some (pc, .invokestatic index, 3)) (hp : pc + 3 = pc2) (hM : Mok M2) (hl : lk_ (m_y M).cls index (m_y M2)) (hv : vs_ M2 as.length) (hst : st = as.reverse ++ rest) (hr8 : (rest.map fun v => v.category).sum ≤ 8) (hrm : m_f M2 + 1 ≤ m_f M ∧ 8 + (m_l M2 + 11) + m_w M2 ≤ m_w M) (hca : ∀ v ∈ as, v.category = 1) (hle : as.length ≤ m_l M2) (hY : Y G M2 (0, 0) 0 (en_ M2 as) [] (lay, mm) (qm_ lay P)) (k : ∀ (v : Option Value) (m2 : Mm), P v m2 → Y G M cap pc2 ls (v.toList ++ rest) (lay, m2) Q) : Y G M cap pc ls st (lay, mm) Q := by
  intro p l e R s m args below meth c D cA base sp n0 s0 Z C fin H locs lsA cells slots hA hL
  subst hp; subst hst
  refine W_siz (fun hz => ?_)
  have hrf := C.rm.1
  have hrl := C.rm.2.1
  have hcells : cells + 0 ≤ R.cells ∧ slots + 0 ≤ R.slots := ⟨hA.2.2.2.2.2.1, hA.2.2.2.2.2.2⟩
  have hcf : ∀ v ∈ as, v.category = 1 := hca
  have hmet := Y.met (mc := 0) (ms := 0) (Q := (qm_ lay P)) l D cA base sp hM hcf (by simpa using hle) ⟨Nat.zero_le _, Nat.zero_le _⟩ hY (fun v σ' hq => by rw [hq.1]; exact ⟨rfl, rfl⟩)
  have hW8 : 2 * (F0 m pc lsA []).monitorRoom + ((rest.map (tr_ base sp)).map fun v => v.category).sum ≤ 8 := lv_room (by rw [cat_sum]; exact hr8)
  have hpre := pr_at C hA hz
  have hR : ({ frames := m_f M2, cells := 0, slots := 0, locals := m_w M2 } : Room).frames + 1 ≤ R.frames ∧ 8 + (m_l M2 + 11) + ({ frames := m_f M2, cells := 0, slots := 0, locals := m_w M2 } : Room).locals ≤ R.locals := ⟨by show m_f M2 + 1 ≤ _; omega, by show 8 + (m_l M2 + 11) + m_w M2 ≤ _; omega⟩
  have hstk : List.map (tr_ base sp) (as.reverse ++ rest) = (as.map (tr_ base sp)).reverse ++ rest.map (tr_ base sp) := by simp
  rw [hstk]
  refine y_run (sp := sp) (a := (as.map (tr_ base sp)).toArray) (mc := 0) (ms := 0) (Q := (qm_ lay P)) (σ := (lay, mm)) (rest := rest.map (tr_ base sp)) hA ?_ (fun v σ' hq => by rw [hq.1]; exact ⟨rfl, rfl⟩) hcells (fun v σ2 H1 locs1 hQ hA2 => ?_)
  · rcases hl with hl | ⟨host, hl⟩
    · exact va_runS (n := as.length) (As := as.map (tr_ base sp)) (rest := rest.map (tr_ base sp)) C.fix hmet ⟨callB_of as.length C.ts (mok_g hM) rfl rfl rfl (C.ts _ hM.2.2.2.1) (C.ts _ hl) ⟨hM.2.2.2.2.1, hM.2.2.2.2.2, hv.2⟩ hR, C.ts _ hv.1⟩ ⟨pr_blind, fun U hU hW => ⟨rfl, hpre U hU hW⟩⟩ rfl (by simp) hL.2.1 rfl hW8 (C.dec h) hcells
    · exact va_runSN (n := as.length) (As := as.map (tr_ base sp)) (rest := rest.map (tr_ base sp)) C.fix hmet ⟨va_cnB as.length C.ts (mok_g hM) rfl rfl rfl (C.st.2.1 _ hl) (C.ts _ hM.2.2.2.1) ⟨hM.2.2.2.2.1, hM.2.2.2.2.2, hv.2⟩ hR, C.ts _ hv.1, trivial⟩ ⟨pr_blind, fun U hU hW => ⟨rfl, hpre U hU hW⟩⟩ rfl (by simp) hL.2.1 rfl hW8 (C.dec h) hcells
  · rw [v_list]
    obtain ⟨lay2, m2⟩ := σ2
    obtain ⟨hl2, hP2⟩ := hQ
    have hl2 : lay2 = lay := hl2
    subst hl2
    exact k v m2 hP2 p l e R s m args below meth c D cA base sp n0 s0 Z C fin H1 locs1 lsA cells slots hA2 hL
set_option maxHeartbeats 400000 in
theorem Y_callI {index a : Nat} {M2 : Mi} {as rest : List Value} {mc ms : Nat} {P : Option Value → Sg → Prop} (i : Nat) (h : (m_t M)[i]? = some (pc, .invokespecial index, 3)) (hp : pc + 3 = pc2) (hM : Mok M2) (hl : lk_ (m_y M).cls index (m_y M2)) (hv : vn_ M2 as.length) (ha : a < 1000000) (hst : st = as.reverse ++ .ref a :: rest) (hr8 : (rest.map fun v => v.category).sum ≤ 8) (hrm : m_f M2 + 1 ≤ m_f M ∧ 8 + (m_l M2 + 11) + m_w M2 ≤ m_w M) (hca : ∀ v ∈ as, v.category = 1) (hle : as.length + 1 ≤ m_l M2) (hc1 : lay.length + mc ≤ cap.1) (hc2 : sl_ lay + ms ≤ cap.2) (hY : Y G M2 (lay.length + mc, sl_ lay + ms) 0 (en_ M2 (.ref a :: as)) [] (lay, mm) P) (hq : ∀ v σ2, P v σ2 → σ2.1.length = lay.length + mc ∧ sl_ σ2.1 = sl_ lay + ms) (k : ∀ (v : Option Value) (σ2 : Sg), P v σ2 → Y G M cap pc2 ls (v.toList ++ rest) σ2 Q) : Y G M cap pc ls st (lay, mm) Q := by
  intro p l e R s m args below meth c D cA base sp n0 s0 Z C fin H locs lsA cells slots hA hL
  subst hp; subst hst
  refine W_siz (fun hz => ?_)
  have hrf := C.rm.1
  have hrl := C.rm.2.1
  have hcells : cells + mc ≤ R.cells ∧ slots + ms ≤ R.slots := by
    have h1 := C.rm.2.2.1
    have h2 := C.rm.2.2.2
    have e1 : cells + n0 = lay.length := hA.2.2.2.1
    have e2 : slots + s0 = sl_ lay := hA.2.2.2.2.1
    exact ⟨by omega, by omega⟩
  have hcf : ∀ v ∈ (.ref a :: as), v.category = 1 := by
    intro v hv
    rcases List.mem_cons.mp hv with h | h
    · rw [h]; rfl
    · exact hca v h
  have hmet := Y.met (mc := mc) (ms := ms) (Q := P) l D cA base sp hM hcf (by simpa using hle) ⟨Nat.le_refl _, Nat.le_refl _⟩ hY hq
  have hW8 : 2 * (F0 m pc lsA []).monitorRoom + ((rest.map (tr_ base sp)).map fun v => v.category).sum ≤ 8 := lv_room (by rw [cat_sum]; exact hr8)
  have hpre := pr_at C hA hz
  have hR : ({ frames := m_f M2, cells := mc, slots := ms, locals := m_w M2 } : Room).frames + 1 ≤ R.frames ∧ 8 + (m_l M2 + 11) + ({ frames := m_f M2, cells := mc, slots := ms, locals := m_w M2 } : Room).locals ≤ R.locals := ⟨by show m_f M2 + 1 ≤ _; omega, by show 8 + (m_l M2 + 11) + m_w M2 ≤ _; omega⟩
  have hstk : List.map (tr_ base sp) (as.reverse ++ .ref a :: rest) = (as.map (tr_ base sp)).reverse ++ tr_ base sp (.ref a) :: rest.map (tr_ base sp) := by simp
  rw [hstk]
  have htr := tr_ref (base := base) (sp := sp) ha
  rw [htr]
  rw [List.map_cons, htr] at hmet
  refine y_run (sp := sp) (a := (Value.ref (base + a) :: as.map (tr_ base sp)).toArray) (mc := mc) (ms := ms) (Q := P) (σ := (lay, mm)) (rest := rest.map (tr_ base sp)) hA ?_ hq hcells (fun v σ2 H1 locs1 hQ hA2 => ?_)
  · rcases hl with hl | ⟨host, hl⟩
    · exact va_runI (n := as.length) (As := as.map (tr_ base sp)) (rest := rest.map (tr_ base sp)) C.fix hmet ⟨callB_of as.length C.ts (mok_g hM) (by rw [hv.2.1]) rfl rfl (C.ts _ hM.2.2.2.1) (C.ts _ hl) ⟨hM.2.2.2.2.1, hM.2.2.2.2.2, hv.2.2.2⟩ hR, hv.1, C.ts _ hv.2.2.1⟩ ⟨pr_blind, fun U hU hW => ⟨rfl, hpre U hU hW⟩⟩ rfl (by simp) hL.2.1 rfl hW8 (C.dec h) hcells
    · exact va_runIN (n := as.length) (As := as.map (tr_ base sp)) (rest := rest.map (tr_ base sp)) C.fix hmet ⟨va_cnB as.length C.ts (mok_g hM) (by rw [hv.2.1]) rfl rfl (C.st.2.1 _ hl) (C.ts _ hM.2.2.2.1) ⟨hM.2.2.2.2.1, hM.2.2.2.2.2, hv.2.2.2⟩ hR, hv.1, C.ts _ hv.2.2.1⟩ ⟨pr_blind, fun U hU hW => ⟨rfl, hpre U hU hW⟩⟩ rfl (by simp) hL.2.1 rfl hW8 (C.dec h) hcells
  · rw [v_list]
    exact k v σ2 hQ p l e R s m args below meth c D cA base sp n0 s0 Z C fin H1 locs1 lsA (cells + mc) (slots + ms) hA2 hL
end Y4
