/-! the class made -/
set_option maxHeartbeats 1000000 in
theorem sl_st {e e2 : Nat × Nat × List (Option Nat)} : ∀ {Z : Ly} {j : Nat}, Z[j]? = some e → e2.2.1 = e.2.1 → sl_ (Z.set j e2) = sl_ Z
  | [], _, h, _ => by simp at h
  | a :: t, 0, h, h2 => by
    have : a = e := by simpa using h
    simp [sl_, this, h2]
  | a :: t, j + 1, h, h2 => by
    have := sl_st (Z := t) (j := j) (by simpa using h) h2
    simp [sl_] at this ⊢
    exact this

noncomputable def ZG0 (n : Nat) : Ly := [(9, 8, [none, none, none, none, none, none, none, none])]
set_option maxHeartbeats 1000000 in
theorem slG0 {n : Nat} : sl_ (ZG0 n) = 8 := rfl
set_option maxHeartbeats 1000000 in
theorem lnG0 {n : Nat} : (ZG0 n).length = 1 := rfl
noncomputable def RG0 : List (Nat → Int32) := [(z_)]
noncomputable def ZG1 (n : Nat) : Ly := [(9, 8, [none, none, none, none, none, none, none, none]), (6, 2, [some (n + 2), none]), (11, 64, [])]
set_option maxHeartbeats 1000000 in
theorem slG1 {n : Nat} : sl_ (ZG1 n) = 74 := by
  have e : ZG1 n = ZG0 n ++ [(6, 2, [some (n + 2), none]), (11, 64, [])] := rfl
  rw [e, sl_app, slG0]; simp [sl_]
set_option maxHeartbeats 1000000 in
theorem lnG1 {n : Nat} : (ZG1 n).length = 3 := by
  have e : ZG1 n = ZG0 n ++ [(6, 2, [some (n + 2), none]), (11, 64, [])] := rfl
  rw [e, List.length_append, lnG0]; rfl
noncomputable def RG1 : List (Nat → Int32) := [(z_), (ua_ (z_) 1 (nI 0)), (z_)]
noncomputable def ZG2 (n : Nat) : Ly := [(9, 8, [some (n + 1), none, none, none, none, none, none, none]), (6, 2, [some (n + 2), none]), (11, 64, [])]
set_option maxHeartbeats 1000000 in
theorem slG2 {n : Nat} : sl_ (ZG2 n) = 74 := by
  have e : ZG2 n = (ZG1 n).set 0 (9, 8, [some (n + 1), none, none, none, none, none, none, none]) := rfl
  rw [e]
  exact (sl_st (e := (9, 8, [none, none, none, none, none, none, none, none])) (e2 := (9, 8, [some (n + 1), none, none, none, none, none, none, none])) rfl rfl).trans slG1
set_option maxHeartbeats 1000000 in
theorem lnG2 {n : Nat} : (ZG2 n).length = 3 := by
  have e : ZG2 n = (ZG1 n).set 0 (9, 8, [some (n + 1), none, none, none, none, none, none, none]) := rfl
  rw [e, List.length_set, lnG1]
noncomputable def ZG3 (n : Nat) : Ly := [(9, 8, [some (n + 1), none, none, none, none, none, none, none]), (6, 2, [some (n + 2), none]), (11, 64, []), (7, 6, [some (n + 4), some (n + 5), none, none, none, none]), (12, 32, []), (12, 32, [])]
set_option maxHeartbeats 1000000 in
theorem slG3 {n : Nat} : sl_ (ZG3 n) = 144 := by
  have e : ZG3 n = ZG2 n ++ [(7, 6, [some (n + 4), some (n + 5), none, none, none, none]), (12, 32, []), (12, 32, [])] := rfl
  rw [e, sl_app, slG2]; simp [sl_]
set_option maxHeartbeats 1000000 in
theorem lnG3 {n : Nat} : (ZG3 n).length = 6 := by
  have e : ZG3 n = ZG2 n ++ [(7, 6, [some (n + 4), some (n + 5), none, none, none, none]), (12, 32, []), (12, 32, [])] := rfl
  rw [e, List.length_append, lnG2]; rfl
noncomputable def RG2 : List (Nat → Int32) := [(z_), (ua_ (z_) 1 (nI 0)), (z_), (ua_ (ua_ (ua_ (ua_ (z_) 2 (nI 0)) 3 (NONE_)) 4 (nI 0)) 5 (nI 0)), (z_), (z_)]
noncomputable def ZG4 (n : Nat) : Ly := [(9, 8, [some (n + 1), some (n + 3), none, none, none, none, none, none]), (6, 2, [some (n + 2), none]), (11, 64, []), (7, 6, [some (n + 4), some (n + 5), none, none, none, none]), (12, 32, []), (12, 32, [])]
set_option maxHeartbeats 1000000 in
theorem slG4 {n : Nat} : sl_ (ZG4 n) = 144 := by
  have e : ZG4 n = (ZG3 n).set 0 (9, 8, [some (n + 1), some (n + 3), none, none, none, none, none, none]) := rfl
  rw [e]
  exact (sl_st (e := (9, 8, [some (n + 1), none, none, none, none, none, none, none])) (e2 := (9, 8, [some (n + 1), some (n + 3), none, none, none, none, none, none])) rfl rfl).trans slG3
set_option maxHeartbeats 1000000 in
theorem lnG4 {n : Nat} : (ZG4 n).length = 6 := by
  have e : ZG4 n = (ZG3 n).set 0 (9, 8, [some (n + 1), some (n + 3), none, none, none, none, none, none]) := rfl
  rw [e, List.length_set, lnG3]
noncomputable def ZG5 (n : Nat) : Ly := [(9, 8, [some (n + 1), some (n + 3), none, none, none, none, none, none]), (6, 2, [some (n + 2), none]), (11, 64, []), (7, 6, [some (n + 4), some (n + 5), none, none, none, none]), (12, 32, []), (12, 32, []), (14, 4, [none, none, none, none])]
set_option maxHeartbeats 1000000 in
theorem slG5 {n : Nat} : sl_ (ZG5 n) = 148 := by
  have e : ZG5 n = ZG4 n ++ [(14, 4, [none, none, none, none])] := rfl
  rw [e, sl_app, slG4]; simp [sl_]
set_option maxHeartbeats 1000000 in
theorem lnG5 {n : Nat} : (ZG5 n).length = 7 := by
  have e : ZG5 n = ZG4 n ++ [(14, 4, [none, none, none, none])] := rfl
  rw [e, List.length_append, lnG4]; rfl
noncomputable def RG3 : List (Nat → Int32) := [(z_), (ua_ (z_) 1 (nI 0)), (z_), (ua_ (ua_ (ua_ (ua_ (z_) 2 (nI 0)) 3 (NONE_)) 4 (nI 0)) 5 (nI 0)), (z_), (z_), (z_)]
noncomputable def ZG6 (n : Nat) : Ly := [(9, 8, [some (n + 1), some (n + 3), some (n + 6), none, none, none, none, none]), (6, 2, [some (n + 2), none]), (11, 64, []), (7, 6, [some (n + 4), some (n + 5), none, none, none, none]), (12, 32, []), (12, 32, []), (14, 4, [none, none, none, none])]
set_option maxHeartbeats 1000000 in
theorem slG6 {n : Nat} : sl_ (ZG6 n) = 148 := by
  have e : ZG6 n = (ZG5 n).set 0 (9, 8, [some (n + 1), some (n + 3), some (n + 6), none, none, none, none, none]) := rfl
  rw [e]
  exact (sl_st (e := (9, 8, [some (n + 1), some (n + 3), none, none, none, none, none, none])) (e2 := (9, 8, [some (n + 1), some (n + 3), some (n + 6), none, none, none, none, none])) rfl rfl).trans slG5
set_option maxHeartbeats 1000000 in
theorem lnG6 {n : Nat} : (ZG6 n).length = 7 := by
  have e : ZG6 n = (ZG5 n).set 0 (9, 8, [some (n + 1), some (n + 3), some (n + 6), none, none, none, none, none]) := rfl
  rw [e, List.length_set, lnG5]
noncomputable def ZG7 (n : Nat) : Ly := [(9, 8, [some (n + 1), some (n + 3), some (n + 6), none, none, none, none, none]), (6, 2, [some (n + 2), none]), (11, 64, []), (7, 6, [some (n + 4), some (n + 5), none, none, none, none]), (12, 32, []), (12, 32, []), (14, 4, [none, none, none, none]), (16, 4, [none, none, none, none])]
set_option maxHeartbeats 1000000 in
theorem slG7 {n : Nat} : sl_ (ZG7 n) = 152 := by
  have e : ZG7 n = ZG6 n ++ [(16, 4, [none, none, none, none])] := rfl
  rw [e, sl_app, slG6]; simp [sl_]
set_option maxHeartbeats 1000000 in
theorem lnG7 {n : Nat} : (ZG7 n).length = 8 := by
  have e : ZG7 n = ZG6 n ++ [(16, 4, [none, none, none, none])] := rfl
  rw [e, List.length_append, lnG6]; rfl
noncomputable def RG4 : List (Nat → Int32) := [(z_), (ua_ (z_) 1 (nI 0)), (z_), (ua_ (ua_ (ua_ (ua_ (z_) 2 (nI 0)) 3 (NONE_)) 4 (nI 0)) 5 (nI 0)), (z_), (z_), (z_), (z_)]
noncomputable def ZG8 (n : Nat) : Ly := [(9, 8, [some (n + 1), some (n + 3), some (n + 6), some (n + 7), none, none, none, none]), (6, 2, [some (n + 2), none]), (11, 64, []), (7, 6, [some (n + 4), some (n + 5), none, none, none, none]), (12, 32, []), (12, 32, []), (14, 4, [none, none, none, none]), (16, 4, [none, none, none, none])]
set_option maxHeartbeats 1000000 in
theorem slG8 {n : Nat} : sl_ (ZG8 n) = 152 := by
  have e : ZG8 n = (ZG7 n).set 0 (9, 8, [some (n + 1), some (n + 3), some (n + 6), some (n + 7), none, none, none, none]) := rfl
  rw [e]
  exact (sl_st (e := (9, 8, [some (n + 1), some (n + 3), some (n + 6), none, none, none, none, none])) (e2 := (9, 8, [some (n + 1), some (n + 3), some (n + 6), some (n + 7), none, none, none, none])) rfl rfl).trans slG7
set_option maxHeartbeats 1000000 in
theorem lnG8 {n : Nat} : (ZG8 n).length = 8 := by
  have e : ZG8 n = (ZG7 n).set 0 (9, 8, [some (n + 1), some (n + 3), some (n + 6), some (n + 7), none, none, none, none]) := rfl
  rw [e, List.length_set, lnG7]
noncomputable def ZG9 (n : Nat) : Ly := [(9, 8, [some (n + 1), some (n + 3), some (n + 6), some (n + 7), none, none, none, none]), (6, 2, [some (n + 2), none]), (11, 64, []), (7, 6, [some (n + 4), some (n + 5), none, none, none, none]), (12, 32, []), (12, 32, []), (14, 4, [none, none, none, none]), (16, 4, [none, none, none, none]), (4, 6, [some (n + 9), some (n + 10), some (n + 11), some (n + 12), none, none]), (12, 16, []), (12, 16, []), (12, 16, []), (12, 144, [])]
set_option maxHeartbeats 1000000 in
theorem slG9 {n : Nat} : sl_ (ZG9 n) = 350 := by
  have e : ZG9 n = ZG8 n ++ [(4, 6, [some (n + 9), some (n + 10), some (n + 11), some (n + 12), none, none]), (12, 16, []), (12, 16, []), (12, 16, []), (12, 144, [])] := rfl
  rw [e, sl_app, slG8]; simp [sl_]
set_option maxHeartbeats 1000000 in
theorem lnG9 {n : Nat} : (ZG9 n).length = 13 := by
  have e : ZG9 n = ZG8 n ++ [(4, 6, [some (n + 9), some (n + 10), some (n + 11), some (n + 12), none, none]), (12, 16, []), (12, 16, []), (12, 16, []), (12, 144, [])] := rfl
  rw [e, List.length_append, lnG8]; rfl
noncomputable def RG5 : List (Nat → Int32) := [(z_), (ua_ (z_) 1 (nI 0)), (z_), (ua_ (ua_ (ua_ (ua_ (z_) 2 (nI 0)) 3 (NONE_)) 4 (nI 0)) 5 (nI 0)), (z_), (z_), (z_), (z_), (ua_ (ua_ (z_) 4 (nI 0)) 5 (nI 0)), (z_), (z_), (z_), (flr (z_) (144) NONE_)]
noncomputable def ZG10 (n : Nat) : Ly := [(9, 8, [some (n + 1), some (n + 3), some (n + 6), some (n + 7), some (n + 8), none, none, none]), (6, 2, [some (n + 2), none]), (11, 64, []), (7, 6, [some (n + 4), some (n + 5), none, none, none, none]), (12, 32, []), (12, 32, []), (14, 4, [none, none, none, none]), (16, 4, [none, none, none, none]), (4, 6, [some (n + 9), some (n + 10), some (n + 11), some (n + 12), none, none]), (12, 16, []), (12, 16, []), (12, 16, []), (12, 144, [])]
set_option maxHeartbeats 1000000 in
theorem slG10 {n : Nat} : sl_ (ZG10 n) = 350 := by
  have e : ZG10 n = (ZG9 n).set 0 (9, 8, [some (n + 1), some (n + 3), some (n + 6), some (n + 7), some (n + 8), none, none, none]) := rfl
  rw [e]
  exact (sl_st (e := (9, 8, [some (n + 1), some (n + 3), some (n + 6), some (n + 7), none, none, none, none])) (e2 := (9, 8, [some (n + 1), some (n + 3), some (n + 6), some (n + 7), some (n + 8), none, none, none])) rfl rfl).trans slG9
set_option maxHeartbeats 1000000 in
theorem lnG10 {n : Nat} : (ZG10 n).length = 13 := by
  have e : ZG10 n = (ZG9 n).set 0 (9, 8, [some (n + 1), some (n + 3), some (n + 6), some (n + 7), some (n + 8), none, none, none]) := rfl
  rw [e, List.length_set, lnG9]
noncomputable def ZG11 (n : Nat) : Ly := [(9, 8, [some (n + 1), some (n + 3), some (n + 6), some (n + 7), some (n + 8), none, none, none]), (6, 2, [some (n + 2), none]), (11, 64, []), (7, 6, [some (n + 4), some (n + 5), none, none, none, none]), (12, 32, []), (12, 32, []), (14, 4, [none, none, none, none]), (16, 4, [none, none, none, none]), (4, 6, [some (n + 9), some (n + 10), some (n + 11), some (n + 12), none, none]), (12, 16, []), (12, 16, []), (12, 16, []), (12, 144, []), (8, 4, [none, none, none, none])]
set_option maxHeartbeats 1000000 in
theorem slG11 {n : Nat} : sl_ (ZG11 n) = 354 := by
  have e : ZG11 n = ZG10 n ++ [(8, 4, [none, none, none, none])] := rfl
  rw [e, sl_app, slG10]; simp [sl_]
set_option maxHeartbeats 1000000 in
theorem lnG11 {n : Nat} : (ZG11 n).length = 14 := by
  have e : ZG11 n = ZG10 n ++ [(8, 4, [none, none, none, none])] := rfl
  rw [e, List.length_append, lnG10]; rfl
noncomputable def RG6 : List (Nat → Int32) := [(z_), (ua_ (z_) 1 (nI 0)), (z_), (ua_ (ua_ (ua_ (ua_ (z_) 2 (nI 0)) 3 (NONE_)) 4 (nI 0)) 5 (nI 0)), (z_), (z_), (z_), (z_), (ua_ (ua_ (z_) 4 (nI 0)) 5 (nI 0)), (z_), (z_), (z_), (flr (z_) (144) NONE_), (ua_ (ua_ (ua_ (ua_ (z_) 0 (nI 0)) 1 (nI 0)) 2 (nI 0)) 3 (nI 0))]
noncomputable def ZG12 (n : Nat) : Ly := [(9, 8, [some (n + 1), some (n + 3), some (n + 6), some (n + 7), some (n + 8), some (n + 13), none, none]), (6, 2, [some (n + 2), none]), (11, 64, []), (7, 6, [some (n + 4), some (n + 5), none, none, none, none]), (12, 32, []), (12, 32, []), (14, 4, [none, none, none, none]), (16, 4, [none, none, none, none]), (4, 6, [some (n + 9), some (n + 10), some (n + 11), some (n + 12), none, none]), (12, 16, []), (12, 16, []), (12, 16, []), (12, 144, []), (8, 4, [none, none, none, none])]
set_option maxHeartbeats 1000000 in
theorem slG12 {n : Nat} : sl_ (ZG12 n) = 354 := by
  have e : ZG12 n = (ZG11 n).set 0 (9, 8, [some (n + 1), some (n + 3), some (n + 6), some (n + 7), some (n + 8), some (n + 13), none, none]) := rfl
  rw [e]
  exact (sl_st (e := (9, 8, [some (n + 1), some (n + 3), some (n + 6), some (n + 7), some (n + 8), none, none, none])) (e2 := (9, 8, [some (n + 1), some (n + 3), some (n + 6), some (n + 7), some (n + 8), some (n + 13), none, none])) rfl rfl).trans slG11
set_option maxHeartbeats 1000000 in
theorem lnG12 {n : Nat} : (ZG12 n).length = 14 := by
  have e : ZG12 n = (ZG11 n).set 0 (9, 8, [some (n + 1), some (n + 3), some (n + 6), some (n + 7), some (n + 8), some (n + 13), none, none]) := rfl
  rw [e, List.length_set, lnG11]
noncomputable def ZG13 (n : Nat) : Ly := [(9, 8, [some (n + 1), some (n + 3), some (n + 6), some (n + 7), some (n + 8), some (n + 13), none, none]), (6, 2, [some (n + 2), none]), (11, 64, []), (7, 6, [some (n + 4), some (n + 5), none, none, none, none]), (12, 32, []), (12, 32, []), (14, 4, [none, none, none, none]), (16, 4, [none, none, none, none]), (4, 6, [some (n + 9), some (n + 10), some (n + 11), some (n + 12), none, none]), (12, 16, []), (12, 16, []), (12, 16, []), (12, 144, []), (8, 4, [none, none, none, none]), (3, 5, [some (n + 15), some (n + 16), some (n + 17), some (n + 18), some (n + 19)]), (12, 42, []), (12, 42, []), (12, 42, []), (12, 3, []), (13, 6, [])]
set_option maxHeartbeats 1000000 in
theorem slG13 {n : Nat} : sl_ (ZG13 n) = 494 := by
  have e : ZG13 n = ZG12 n ++ [(3, 5, [some (n + 15), some (n + 16), some (n + 17), some (n + 18), some (n + 19)]), (12, 42, []), (12, 42, []), (12, 42, []), (12, 3, []), (13, 6, [])] := rfl
  rw [e, sl_app, slG12]; simp [sl_]
set_option maxHeartbeats 1000000 in
theorem lnG13 {n : Nat} : (ZG13 n).length = 20 := by
  have e : ZG13 n = ZG12 n ++ [(3, 5, [some (n + 15), some (n + 16), some (n + 17), some (n + 18), some (n + 19)]), (12, 42, []), (12, 42, []), (12, 42, []), (12, 3, []), (13, 6, [])] := rfl
  rw [e, List.length_append, lnG12]; rfl
noncomputable def RG7 : List (Nat → Int32) := [(z_), (ua_ (z_) 1 (nI 0)), (z_), (ua_ (ua_ (ua_ (ua_ (z_) 2 (nI 0)) 3 (NONE_)) 4 (nI 0)) 5 (nI 0)), (z_), (z_), (z_), (z_), (ua_ (ua_ (z_) 4 (nI 0)) 5 (nI 0)), (z_), (z_), (z_), (flr (z_) (144) NONE_), (ua_ (ua_ (ua_ (ua_ (z_) 0 (nI 0)) 1 (nI 0)) 2 (nI 0)) 3 (nI 0)), (z_), (z_), (z_), (z_), (z_), (z_)]
noncomputable def ZG14 (n : Nat) : Ly := [(9, 8, [some (n + 1), some (n + 3), some (n + 6), some (n + 7), some (n + 8), some (n + 13), some (n + 14), none]), (6, 2, [some (n + 2), none]), (11, 64, []), (7, 6, [some (n + 4), some (n + 5), none, none, none, none]), (12, 32, []), (12, 32, []), (14, 4, [none, none, none, none]), (16, 4, [none, none, none, none]), (4, 6, [some (n + 9), some (n + 10), some (n + 11), some (n + 12), none, none]), (12, 16, []), (12, 16, []), (12, 16, []), (12, 144, []), (8, 4, [none, none, none, none]), (3, 5, [some (n + 15), some (n + 16), some (n + 17), some (n + 18), some (n + 19)]), (12, 42, []), (12, 42, []), (12, 42, []), (12, 3, []), (13, 6, [])]
set_option maxHeartbeats 1000000 in
theorem slG14 {n : Nat} : sl_ (ZG14 n) = 494 := by
  have e : ZG14 n = (ZG13 n).set 0 (9, 8, [some (n + 1), some (n + 3), some (n + 6), some (n + 7), some (n + 8), some (n + 13), some (n + 14), none]) := rfl
  rw [e]
  exact (sl_st (e := (9, 8, [some (n + 1), some (n + 3), some (n + 6), some (n + 7), some (n + 8), some (n + 13), none, none])) (e2 := (9, 8, [some (n + 1), some (n + 3), some (n + 6), some (n + 7), some (n + 8), some (n + 13), some (n + 14), none])) rfl rfl).trans slG13
set_option maxHeartbeats 1000000 in
theorem lnG14 {n : Nat} : (ZG14 n).length = 20 := by
  have e : ZG14 n = (ZG13 n).set 0 (9, 8, [some (n + 1), some (n + 3), some (n + 6), some (n + 7), some (n + 8), some (n + 13), some (n + 14), none]) := rfl
  rw [e, List.length_set, lnG13]
noncomputable def ZG15 (n : Nat) : Ly := [(9, 8, [some (n + 1), some (n + 3), some (n + 6), some (n + 7), some (n + 8), some (n + 13), some (n + 14), none]), (6, 2, [some (n + 2), none]), (11, 64, []), (7, 6, [some (n + 4), some (n + 5), none, none, none, none]), (12, 32, []), (12, 32, []), (14, 4, [none, none, none, none]), (16, 4, [none, none, none, none]), (4, 6, [some (n + 9), some (n + 10), some (n + 11), some (n + 12), none, none]), (12, 16, []), (12, 16, []), (12, 16, []), (12, 144, []), (8, 4, [none, none, none, none]), (3, 5, [some (n + 15), some (n + 16), some (n + 17), some (n + 18), some (n + 19)]), (12, 42, []), (12, 42, []), (12, 42, []), (12, 3, []), (13, 6, []), (17, 2, [none, none])]
set_option maxHeartbeats 1000000 in
theorem slG15 {n : Nat} : sl_ (ZG15 n) = 496 := by
  have e : ZG15 n = ZG14 n ++ [(17, 2, [none, none])] := rfl
  rw [e, sl_app, slG14]; simp [sl_]
set_option maxHeartbeats 1000000 in
theorem lnG15 {n : Nat} : (ZG15 n).length = 21 := by
  have e : ZG15 n = ZG14 n ++ [(17, 2, [none, none])] := rfl
  rw [e, List.length_append, lnG14]; rfl
noncomputable def RG8 : List (Nat → Int32) := [(z_), (ua_ (z_) 1 (nI 0)), (z_), (ua_ (ua_ (ua_ (ua_ (z_) 2 (nI 0)) 3 (NONE_)) 4 (nI 0)) 5 (nI 0)), (z_), (z_), (z_), (z_), (ua_ (ua_ (z_) 4 (nI 0)) 5 (nI 0)), (z_), (z_), (z_), (flr (z_) (144) NONE_), (ua_ (ua_ (ua_ (ua_ (z_) 0 (nI 0)) 1 (nI 0)) 2 (nI 0)) 3 (nI 0)), (z_), (z_), (z_), (z_), (z_), (z_), (z_)]
noncomputable def ZG16 (n : Nat) : Ly := [(9, 8, [some (n + 1), some (n + 3), some (n + 6), some (n + 7), some (n + 8), some (n + 13), some (n + 14), some (n + 20)]), (6, 2, [some (n + 2), none]), (11, 64, []), (7, 6, [some (n + 4), some (n + 5), none, none, none, none]), (12, 32, []), (12, 32, []), (14, 4, [none, none, none, none]), (16, 4, [none, none, none, none]), (4, 6, [some (n + 9), some (n + 10), some (n + 11), some (n + 12), none, none]), (12, 16, []), (12, 16, []), (12, 16, []), (12, 144, []), (8, 4, [none, none, none, none]), (3, 5, [some (n + 15), some (n + 16), some (n + 17), some (n + 18), some (n + 19)]), (12, 42, []), (12, 42, []), (12, 42, []), (12, 3, []), (13, 6, []), (17, 2, [none, none])]
set_option maxHeartbeats 1000000 in
theorem slG16 {n : Nat} : sl_ (ZG16 n) = 496 := by
  have e : ZG16 n = (ZG15 n).set 0 (9, 8, [some (n + 1), some (n + 3), some (n + 6), some (n + 7), some (n + 8), some (n + 13), some (n + 14), some (n + 20)]) := rfl
  rw [e]
  exact (sl_st (e := (9, 8, [some (n + 1), some (n + 3), some (n + 6), some (n + 7), some (n + 8), some (n + 13), some (n + 14), none])) (e2 := (9, 8, [some (n + 1), some (n + 3), some (n + 6), some (n + 7), some (n + 8), some (n + 13), some (n + 14), some (n + 20)])) rfl rfl).trans slG15
set_option maxHeartbeats 1000000 in
theorem lnG16 {n : Nat} : (ZG16 n).length = 21 := by
  have e : ZG16 n = (ZG15 n).set 0 (9, 8, [some (n + 1), some (n + 3), some (n + 6), some (n + 7), some (n + 8), some (n + 13), some (n + 14), some (n + 20)]) := rfl
  rw [e, List.length_set, lnG15]
noncomputable def ZG17 (n : Nat) : Ly := [(9, 8, [some (n + 1), some (n + 3), some (n + 6), some (n + 7), some (n + 8), some (n + 13), some (n + 14), some (n + 20)]), (6, 2, [some (n + 2), none]), (11, 64, []), (7, 6, [some (n + 4), some (n + 5), none, none, none, none]), (12, 32, []), (12, 32, []), (14, 4, [none, none, none, none]), (16, 4, [none, none, none, none]), (4, 6, [some (n + 9), some (n + 10), some (n + 11), some (n + 12), none, none]), (12, 16, []), (12, 16, []), (12, 16, []), (12, 144, []), (8, 4, [none, none, none, none]), (3, 5, [some (n + 15), some (n + 16), some (n + 17), some (n + 18), some (n + 19)]), (12, 42, []), (12, 42, []), (12, 42, []), (12, 3, []), (13, 6, []), (17, 2, [none, none]), (0, 5, [some (n + 22), some (n + 23), some (n + 24), some (n + 25), none]), (12, 32, []), (12, 32, []), (12, 32, []), (12, 32, [])]
set_option maxHeartbeats 1000000 in
theorem slG17 {n : Nat} : sl_ (ZG17 n) = 629 := by
  have e : ZG17 n = ZG16 n ++ [(0, 5, [some (n + 22), some (n + 23), some (n + 24), some (n + 25), none]), (12, 32, []), (12, 32, []), (12, 32, []), (12, 32, [])] := rfl
  rw [e, sl_app, slG16]; simp [sl_]
set_option maxHeartbeats 1000000 in
theorem lnG17 {n : Nat} : (ZG17 n).length = 26 := by
  have e : ZG17 n = ZG16 n ++ [(0, 5, [some (n + 22), some (n + 23), some (n + 24), some (n + 25), none]), (12, 32, []), (12, 32, []), (12, 32, []), (12, 32, [])] := rfl
  rw [e, List.length_append, lnG16]; rfl
noncomputable def RG9 : List (Nat → Int32) := [(z_), (ua_ (z_) 1 (nI 0)), (z_), (ua_ (ua_ (ua_ (ua_ (z_) 2 (nI 0)) 3 (NONE_)) 4 (nI 0)) 5 (nI 0)), (z_), (z_), (z_), (z_), (ua_ (ua_ (z_) 4 (nI 0)) 5 (nI 0)), (z_), (z_), (z_), (flr (z_) (144) NONE_), (ua_ (ua_ (ua_ (ua_ (z_) 0 (nI 0)) 1 (nI 0)) 2 (nI 0)) 3 (nI 0)), (z_), (z_), (z_), (z_), (z_), (z_), (z_), (ua_ (z_) 4 (nI 8)), (flr (z_) (32) NONE_), (flr (z_) (32) NONE_), (z_), (z_)]
noncomputable def ZG18 (n : Nat) : Ly := [(9, 8, [some (n + 1), some (n + 3), some (n + 6), some (n + 7), some (n + 8), some (n + 13), some (n + 14), some (n + 20)]), (6, 2, [some (n + 2), none]), (11, 64, []), (7, 6, [some (n + 4), some (n + 5), none, none, none, none]), (12, 32, []), (12, 32, []), (14, 4, [some (n + 21), none, none, none]), (16, 4, [none, none, none, none]), (4, 6, [some (n + 9), some (n + 10), some (n + 11), some (n + 12), none, none]), (12, 16, []), (12, 16, []), (12, 16, []), (12, 144, []), (8, 4, [none, none, none, none]), (3, 5, [some (n + 15), some (n + 16), some (n + 17), some (n + 18), some (n + 19)]), (12, 42, []), (12, 42, []), (12, 42, []), (12, 3, []), (13, 6, []), (17, 2, [none, none]), (0, 5, [some (n + 22), some (n + 23), some (n + 24), some (n + 25), none]), (12, 32, []), (12, 32, []), (12, 32, []), (12, 32, [])]
set_option maxHeartbeats 1000000 in
theorem slG18 {n : Nat} : sl_ (ZG18 n) = 629 := by
  have e : ZG18 n = (ZG17 n).set 6 (14, 4, [some (n + 21), none, none, none]) := rfl
  rw [e]
  exact (sl_st (e := (14, 4, [none, none, none, none])) (e2 := (14, 4, [some (n + 21), none, none, none])) rfl rfl).trans slG17
set_option maxHeartbeats 1000000 in
theorem lnG18 {n : Nat} : (ZG18 n).length = 26 := by
  have e : ZG18 n = (ZG17 n).set 6 (14, 4, [some (n + 21), none, none, none]) := rfl
  rw [e, List.length_set, lnG17]
noncomputable def ZG19 (n : Nat) : Ly := [(9, 8, [some (n + 1), some (n + 3), some (n + 6), some (n + 7), some (n + 8), some (n + 13), some (n + 14), some (n + 20)]), (6, 2, [some (n + 2), none]), (11, 64, []), (7, 6, [some (n + 4), some (n + 5), none, none, none, none]), (12, 32, []), (12, 32, []), (14, 4, [some (n + 21), none, none, none]), (16, 4, [none, none, none, none]), (4, 6, [some (n + 9), some (n + 10), some (n + 11), some (n + 12), none, none]), (12, 16, []), (12, 16, []), (12, 16, []), (12, 144, []), (8, 4, [none, none, none, none]), (3, 5, [some (n + 15), some (n + 16), some (n + 17), some (n + 18), some (n + 19)]), (12, 42, []), (12, 42, []), (12, 42, []), (12, 3, []), (13, 6, []), (17, 2, [none, none]), (0, 5, [some (n + 22), some (n + 23), some (n + 24), some (n + 25), none]), (12, 32, []), (12, 32, []), (12, 32, []), (12, 32, []), (0, 5, [some (n + 27), some (n + 28), some (n + 29), some (n + 30), none]), (12, 32, []), (12, 32, []), (12, 32, []), (12, 32, [])]
set_option maxHeartbeats 1000000 in
theorem slG19 {n : Nat} : sl_ (ZG19 n) = 762 := by
  have e : ZG19 n = ZG18 n ++ [(0, 5, [some (n + 27), some (n + 28), some (n + 29), some (n + 30), none]), (12, 32, []), (12, 32, []), (12, 32, []), (12, 32, [])] := rfl
  rw [e, sl_app, slG18]; simp [sl_]
set_option maxHeartbeats 1000000 in
theorem lnG19 {n : Nat} : (ZG19 n).length = 31 := by
  have e : ZG19 n = ZG18 n ++ [(0, 5, [some (n + 27), some (n + 28), some (n + 29), some (n + 30), none]), (12, 32, []), (12, 32, []), (12, 32, []), (12, 32, [])] := rfl
  rw [e, List.length_append, lnG18]; rfl
noncomputable def RG10 : List (Nat → Int32) := [(z_), (ua_ (z_) 1 (nI 0)), (z_), (ua_ (ua_ (ua_ (ua_ (z_) 2 (nI 0)) 3 (NONE_)) 4 (nI 0)) 5 (nI 0)), (z_), (z_), (z_), (z_), (ua_ (ua_ (z_) 4 (nI 0)) 5 (nI 0)), (z_), (z_), (z_), (flr (z_) (144) NONE_), (ua_ (ua_ (ua_ (ua_ (z_) 0 (nI 0)) 1 (nI 0)) 2 (nI 0)) 3 (nI 0)), (z_), (z_), (z_), (z_), (z_), (z_), (z_), (ua_ (z_) 4 (nI 8)), (flr (z_) (32) NONE_), (flr (z_) (32) NONE_), (z_), (z_), (ua_ (z_) 4 (nI 8)), (flr (z_) (32) NONE_), (flr (z_) (32) NONE_), (z_), (z_)]
noncomputable def ZG20 (n : Nat) : Ly := [(9, 8, [some (n + 1), some (n + 3), some (n + 6), some (n + 7), some (n + 8), some (n + 13), some (n + 14), some (n + 20)]), (6, 2, [some (n + 2), none]), (11, 64, []), (7, 6, [some (n + 4), some (n + 5), none, none, none, none]), (12, 32, []), (12, 32, []), (14, 4, [some (n + 21), some (n + 26), none, none]), (16, 4, [none, none, none, none]), (4, 6, [some (n + 9), some (n + 10), some (n + 11), some (n + 12), none, none]), (12, 16, []), (12, 16, []), (12, 16, []), (12, 144, []), (8, 4, [none, none, none, none]), (3, 5, [some (n + 15), some (n + 16), some (n + 17), some (n + 18), some (n + 19)]), (12, 42, []), (12, 42, []), (12, 42, []), (12, 3, []), (13, 6, []), (17, 2, [none, none]), (0, 5, [some (n + 22), some (n + 23), some (n + 24), some (n + 25), none]), (12, 32, []), (12, 32, []), (12, 32, []), (12, 32, []), (0, 5, [some (n + 27), some (n + 28), some (n + 29), some (n + 30), none]), (12, 32, []), (12, 32, []), (12, 32, []), (12, 32, [])]
set_option maxHeartbeats 1000000 in
theorem slG20 {n : Nat} : sl_ (ZG20 n) = 762 := by
  have e : ZG20 n = (ZG19 n).set 6 (14, 4, [some (n + 21), some (n + 26), none, none]) := rfl
  rw [e]
  exact (sl_st (e := (14, 4, [some (n + 21), none, none, none])) (e2 := (14, 4, [some (n + 21), some (n + 26), none, none])) rfl rfl).trans slG19
set_option maxHeartbeats 1000000 in
theorem lnG20 {n : Nat} : (ZG20 n).length = 31 := by
  have e : ZG20 n = (ZG19 n).set 6 (14, 4, [some (n + 21), some (n + 26), none, none]) := rfl
  rw [e, List.length_set, lnG19]
noncomputable def ZG21 (n : Nat) : Ly := [(9, 8, [some (n + 1), some (n + 3), some (n + 6), some (n + 7), some (n + 8), some (n + 13), some (n + 14), some (n + 20)]), (6, 2, [some (n + 2), none]), (11, 64, []), (7, 6, [some (n + 4), some (n + 5), none, none, none, none]), (12, 32, []), (12, 32, []), (14, 4, [some (n + 21), some (n + 26), none, none]), (16, 4, [none, none, none, none]), (4, 6, [some (n + 9), some (n + 10), some (n + 11), some (n + 12), none, none]), (12, 16, []), (12, 16, []), (12, 16, []), (12, 144, []), (8, 4, [none, none, none, none]), (3, 5, [some (n + 15), some (n + 16), some (n + 17), some (n + 18), some (n + 19)]), (12, 42, []), (12, 42, []), (12, 42, []), (12, 3, []), (13, 6, []), (17, 2, [none, none]), (0, 5, [some (n + 22), some (n + 23), some (n + 24), some (n + 25), none]), (12, 32, []), (12, 32, []), (12, 32, []), (12, 32, []), (0, 5, [some (n + 27), some (n + 28), some (n + 29), some (n + 30), none]), (12, 32, []), (12, 32, []), (12, 32, []), (12, 32, []), (0, 5, [some (n + 32), some (n + 33), some (n + 34), some (n + 35), none]), (12, 32, []), (12, 32, []), (12, 32, []), (12, 32, [])]
set_option maxHeartbeats 1000000 in
theorem slG21 {n : Nat} : sl_ (ZG21 n) = 895 := by
  have e : ZG21 n = ZG20 n ++ [(0, 5, [some (n + 32), some (n + 33), some (n + 34), some (n + 35), none]), (12, 32, []), (12, 32, []), (12, 32, []), (12, 32, [])] := rfl
  rw [e, sl_app, slG20]; simp [sl_]
set_option maxHeartbeats 1000000 in
theorem lnG21 {n : Nat} : (ZG21 n).length = 36 := by
  have e : ZG21 n = ZG20 n ++ [(0, 5, [some (n + 32), some (n + 33), some (n + 34), some (n + 35), none]), (12, 32, []), (12, 32, []), (12, 32, []), (12, 32, [])] := rfl
  rw [e, List.length_append, lnG20]; rfl
noncomputable def RG11 : List (Nat → Int32) := [(z_), (ua_ (z_) 1 (nI 0)), (z_), (ua_ (ua_ (ua_ (ua_ (z_) 2 (nI 0)) 3 (NONE_)) 4 (nI 0)) 5 (nI 0)), (z_), (z_), (z_), (z_), (ua_ (ua_ (z_) 4 (nI 0)) 5 (nI 0)), (z_), (z_), (z_), (flr (z_) (144) NONE_), (ua_ (ua_ (ua_ (ua_ (z_) 0 (nI 0)) 1 (nI 0)) 2 (nI 0)) 3 (nI 0)), (z_), (z_), (z_), (z_), (z_), (z_), (z_), (ua_ (z_) 4 (nI 8)), (flr (z_) (32) NONE_), (flr (z_) (32) NONE_), (z_), (z_), (ua_ (z_) 4 (nI 8)), (flr (z_) (32) NONE_), (flr (z_) (32) NONE_), (z_), (z_), (ua_ (z_) 4 (nI 8)), (flr (z_) (32) NONE_), (flr (z_) (32) NONE_), (z_), (z_)]
noncomputable def ZG22 (n : Nat) : Ly := [(9, 8, [some (n + 1), some (n + 3), some (n + 6), some (n + 7), some (n + 8), some (n + 13), some (n + 14), some (n + 20)]), (6, 2, [some (n + 2), none]), (11, 64, []), (7, 6, [some (n + 4), some (n + 5), none, none, none, none]), (12, 32, []), (12, 32, []), (14, 4, [some (n + 21), some (n + 26), some (n + 31), none]), (16, 4, [none, none, none, none]), (4, 6, [some (n + 9), some (n + 10), some (n + 11), some (n + 12), none, none]), (12, 16, []), (12, 16, []), (12, 16, []), (12, 144, []), (8, 4, [none, none, none, none]), (3, 5, [some (n + 15), some (n + 16), some (n + 17), some (n + 18), some (n + 19)]), (12, 42, []), (12, 42, []), (12, 42, []), (12, 3, []), (13, 6, []), (17, 2, [none, none]), (0, 5, [some (n + 22), some (n + 23), some (n + 24), some (n + 25), none]), (12, 32, []), (12, 32, []), (12, 32, []), (12, 32, []), (0, 5, [some (n + 27), some (n + 28), some (n + 29), some (n + 30), none]), (12, 32, []), (12, 32, []), (12, 32, []), (12, 32, []), (0, 5, [some (n + 32), some (n + 33), some (n + 34), some (n + 35), none]), (12, 32, []), (12, 32, []), (12, 32, []), (12, 32, [])]
set_option maxHeartbeats 1000000 in
theorem slG22 {n : Nat} : sl_ (ZG22 n) = 895 := by
  have e : ZG22 n = (ZG21 n).set 6 (14, 4, [some (n + 21), some (n + 26), some (n + 31), none]) := rfl
  rw [e]
  exact (sl_st (e := (14, 4, [some (n + 21), some (n + 26), none, none])) (e2 := (14, 4, [some (n + 21), some (n + 26), some (n + 31), none])) rfl rfl).trans slG21
set_option maxHeartbeats 1000000 in
theorem lnG22 {n : Nat} : (ZG22 n).length = 36 := by
  have e : ZG22 n = (ZG21 n).set 6 (14, 4, [some (n + 21), some (n + 26), some (n + 31), none]) := rfl
  rw [e, List.length_set, lnG21]
noncomputable def ZG23 (n : Nat) : Ly := [(9, 8, [some (n + 1), some (n + 3), some (n + 6), some (n + 7), some (n + 8), some (n + 13), some (n + 14), some (n + 20)]), (6, 2, [some (n + 2), none]), (11, 64, []), (7, 6, [some (n + 4), some (n + 5), none, none, none, none]), (12, 32, []), (12, 32, []), (14, 4, [some (n + 21), some (n + 26), some (n + 31), none]), (16, 4, [none, none, none, none]), (4, 6, [some (n + 9), some (n + 10), some (n + 11), some (n + 12), none, none]), (12, 16, []), (12, 16, []), (12, 16, []), (12, 144, []), (8, 4, [none, none, none, none]), (3, 5, [some (n + 15), some (n + 16), some (n + 17), some (n + 18), some (n + 19)]), (12, 42, []), (12, 42, []), (12, 42, []), (12, 3, []), (13, 6, []), (17, 2, [none, none]), (0, 5, [some (n + 22), some (n + 23), some (n + 24), some (n + 25), none]), (12, 32, []), (12, 32, []), (12, 32, []), (12, 32, []), (0, 5, [some (n + 27), some (n + 28), some (n + 29), some (n + 30), none]), (12, 32, []), (12, 32, []), (12, 32, []), (12, 32, []), (0, 5, [some (n + 32), some (n + 33), some (n + 34), some (n + 35), none]), (12, 32, []), (12, 32, []), (12, 32, []), (12, 32, []), (0, 5, [some (n + 37), some (n + 38), some (n + 39), some (n + 40), none]), (12, 32, []), (12, 32, []), (12, 32, []), (12, 32, [])]
set_option maxHeartbeats 1000000 in
theorem slG23 {n : Nat} : sl_ (ZG23 n) = 1028 := by
  have e : ZG23 n = ZG22 n ++ [(0, 5, [some (n + 37), some (n + 38), some (n + 39), some (n + 40), none]), (12, 32, []), (12, 32, []), (12, 32, []), (12, 32, [])] := rfl
  rw [e, sl_app, slG22]; simp [sl_]
set_option maxHeartbeats 1000000 in
theorem lnG23 {n : Nat} : (ZG23 n).length = 41 := by
  have e : ZG23 n = ZG22 n ++ [(0, 5, [some (n + 37), some (n + 38), some (n + 39), some (n + 40), none]), (12, 32, []), (12, 32, []), (12, 32, []), (12, 32, [])] := rfl
  rw [e, List.length_append, lnG22]; rfl
noncomputable def RG12 : List (Nat → Int32) := [(z_), (ua_ (z_) 1 (nI 0)), (z_), (ua_ (ua_ (ua_ (ua_ (z_) 2 (nI 0)) 3 (NONE_)) 4 (nI 0)) 5 (nI 0)), (z_), (z_), (z_), (z_), (ua_ (ua_ (z_) 4 (nI 0)) 5 (nI 0)), (z_), (z_), (z_), (flr (z_) (144) NONE_), (ua_ (ua_ (ua_ (ua_ (z_) 0 (nI 0)) 1 (nI 0)) 2 (nI 0)) 3 (nI 0)), (z_), (z_), (z_), (z_), (z_), (z_), (z_), (ua_ (z_) 4 (nI 8)), (flr (z_) (32) NONE_), (flr (z_) (32) NONE_), (z_), (z_), (ua_ (z_) 4 (nI 8)), (flr (z_) (32) NONE_), (flr (z_) (32) NONE_), (z_), (z_), (ua_ (z_) 4 (nI 8)), (flr (z_) (32) NONE_), (flr (z_) (32) NONE_), (z_), (z_), (ua_ (z_) 4 (nI 8)), (flr (z_) (32) NONE_), (flr (z_) (32) NONE_), (z_), (z_)]
noncomputable def ZG24 (n : Nat) : Ly := [(9, 8, [some (n + 1), some (n + 3), some (n + 6), some (n + 7), some (n + 8), some (n + 13), some (n + 14), some (n + 20)]), (6, 2, [some (n + 2), none]), (11, 64, []), (7, 6, [some (n + 4), some (n + 5), none, none, none, none]), (12, 32, []), (12, 32, []), (14, 4, [some (n + 21), some (n + 26), some (n + 31), some (n + 36)]), (16, 4, [none, none, none, none]), (4, 6, [some (n + 9), some (n + 10), some (n + 11), some (n + 12), none, none]), (12, 16, []), (12, 16, []), (12, 16, []), (12, 144, []), (8, 4, [none, none, none, none]), (3, 5, [some (n + 15), some (n + 16), some (n + 17), some (n + 18), some (n + 19)]), (12, 42, []), (12, 42, []), (12, 42, []), (12, 3, []), (13, 6, []), (17, 2, [none, none]), (0, 5, [some (n + 22), some (n + 23), some (n + 24), some (n + 25), none]), (12, 32, []), (12, 32, []), (12, 32, []), (12, 32, []), (0, 5, [some (n + 27), some (n + 28), some (n + 29), some (n + 30), none]), (12, 32, []), (12, 32, []), (12, 32, []), (12, 32, []), (0, 5, [some (n + 32), some (n + 33), some (n + 34), some (n + 35), none]), (12, 32, []), (12, 32, []), (12, 32, []), (12, 32, []), (0, 5, [some (n + 37), some (n + 38), some (n + 39), some (n + 40), none]), (12, 32, []), (12, 32, []), (12, 32, []), (12, 32, [])]
set_option maxHeartbeats 1000000 in
theorem slG24 {n : Nat} : sl_ (ZG24 n) = 1028 := by
  have e : ZG24 n = (ZG23 n).set 6 (14, 4, [some (n + 21), some (n + 26), some (n + 31), some (n + 36)]) := rfl
  rw [e]
  exact (sl_st (e := (14, 4, [some (n + 21), some (n + 26), some (n + 31), none])) (e2 := (14, 4, [some (n + 21), some (n + 26), some (n + 31), some (n + 36)])) rfl rfl).trans slG23
set_option maxHeartbeats 1000000 in
theorem lnG24 {n : Nat} : (ZG24 n).length = 41 := by
  have e : ZG24 n = (ZG23 n).set 6 (14, 4, [some (n + 21), some (n + 26), some (n + 31), some (n + 36)]) := rfl
  rw [e, List.length_set, lnG23]
noncomputable def ZG25 (n : Nat) : Ly := [(9, 8, [some (n + 1), some (n + 3), some (n + 6), some (n + 7), some (n + 8), some (n + 13), some (n + 14), some (n + 20)]), (6, 2, [some (n + 2), none]), (11, 64, []), (7, 6, [some (n + 4), some (n + 5), none, none, none, none]), (12, 32, []), (12, 32, []), (14, 4, [some (n + 21), some (n + 26), some (n + 31), some (n + 36)]), (16, 4, [none, none, none, none]), (4, 6, [some (n + 9), some (n + 10), some (n + 11), some (n + 12), none, none]), (12, 16, []), (12, 16, []), (12, 16, []), (12, 144, []), (8, 4, [none, none, none, none]), (3, 5, [some (n + 15), some (n + 16), some (n + 17), some (n + 18), some (n + 19)]), (12, 42, []), (12, 42, []), (12, 42, []), (12, 3, []), (13, 6, []), (17, 2, [none, none]), (0, 5, [some (n + 22), some (n + 23), some (n + 24), some (n + 25), none]), (12, 32, []), (12, 32, []), (12, 32, []), (12, 32, []), (0, 5, [some (n + 27), some (n + 28), some (n + 29), some (n + 30), none]), (12, 32, []), (12, 32, []), (12, 32, []), (12, 32, []), (0, 5, [some (n + 32), some (n + 33), some (n + 34), some (n + 35), none]), (12, 32, []), (12, 32, []), (12, 32, []), (12, 32, []), (0, 5, [some (n + 37), some (n + 38), some (n + 39), some (n + 40), none]), (12, 32, []), (12, 32, []), (12, 32, []), (12, 32, []), (2, 3, [none, some (n + 42), some (n + 43)]), (15, 6, [some (n + 44), some (n + 48), some (n + 52), some (n + 56), some (n + 60), some (n + 64)]), (12, 3, []), (1, 3, [some (n + 45), some (n + 46), some (n + 47)]), (12, 2, []), (12, 2, []), (13, 2, []), (1, 3, [some (n + 49), some (n + 50), some (n + 51)]), (12, 2, []), (12, 2, []), (13, 2, []), (1, 3, [some (n + 53), some (n + 54), some (n + 55)]), (12, 2, []), (12, 2, []), (13, 2, []), (1, 3, [some (n + 57), some (n + 58), some (n + 59)]), (12, 2, []), (12, 2, []), (13, 2, []), (1, 3, [some (n + 61), some (n + 62), some (n + 63)]), (12, 2, []), (12, 2, []), (13, 2, []), (1, 3, [some (n + 65), some (n + 66), some (n + 67)]), (12, 2, []), (12, 2, []), (13, 2, [])]
set_option maxHeartbeats 1000000 in
theorem slG25 {n : Nat} : sl_ (ZG25 n) = 1094 := by
  have e : ZG25 n = ZG24 n ++ [(2, 3, [none, some (n + 42), some (n + 43)]), (15, 6, [some (n + 44), some (n + 48), some (n + 52), some (n + 56), some (n + 60), some (n + 64)]), (12, 3, []), (1, 3, [some (n + 45), some (n + 46), some (n + 47)]), (12, 2, []), (12, 2, []), (13, 2, []), (1, 3, [some (n + 49), some (n + 50), some (n + 51)]), (12, 2, []), (12, 2, []), (13, 2, []), (1, 3, [some (n + 53), some (n + 54), some (n + 55)]), (12, 2, []), (12, 2, []), (13, 2, []), (1, 3, [some (n + 57), some (n + 58), some (n + 59)]), (12, 2, []), (12, 2, []), (13, 2, []), (1, 3, [some (n + 61), some (n + 62), some (n + 63)]), (12, 2, []), (12, 2, []), (13, 2, []), (1, 3, [some (n + 65), some (n + 66), some (n + 67)]), (12, 2, []), (12, 2, []), (13, 2, [])] := rfl
  rw [e, sl_app, slG24]; simp [sl_]
set_option maxHeartbeats 1000000 in
theorem lnG25 {n : Nat} : (ZG25 n).length = 68 := by
  have e : ZG25 n = ZG24 n ++ [(2, 3, [none, some (n + 42), some (n + 43)]), (15, 6, [some (n + 44), some (n + 48), some (n + 52), some (n + 56), some (n + 60), some (n + 64)]), (12, 3, []), (1, 3, [some (n + 45), some (n + 46), some (n + 47)]), (12, 2, []), (12, 2, []), (13, 2, []), (1, 3, [some (n + 49), some (n + 50), some (n + 51)]), (12, 2, []), (12, 2, []), (13, 2, []), (1, 3, [some (n + 53), some (n + 54), some (n + 55)]), (12, 2, []), (12, 2, []), (13, 2, []), (1, 3, [some (n + 57), some (n + 58), some (n + 59)]), (12, 2, []), (12, 2, []), (13, 2, []), (1, 3, [some (n + 61), some (n + 62), some (n + 63)]), (12, 2, []), (12, 2, []), (13, 2, []), (1, 3, [some (n + 65), some (n + 66), some (n + 67)]), (12, 2, []), (12, 2, []), (13, 2, [])] := rfl
  rw [e, List.length_append, lnG24]; rfl
noncomputable def RG13 : List (Nat → Int32) := [(z_), (ua_ (z_) 1 (nI 0)), (z_), (ua_ (ua_ (ua_ (ua_ (z_) 2 (nI 0)) 3 (NONE_)) 4 (nI 0)) 5 (nI 0)), (z_), (z_), (z_), (z_), (ua_ (ua_ (z_) 4 (nI 0)) 5 (nI 0)), (z_), (z_), (z_), (flr (z_) (144) NONE_), (ua_ (ua_ (ua_ (ua_ (z_) 0 (nI 0)) 1 (nI 0)) 2 (nI 0)) 3 (nI 0)), (z_), (z_), (z_), (z_), (z_), (z_), (z_), (ua_ (z_) 4 (nI 8)), (flr (z_) (32) NONE_), (flr (z_) (32) NONE_), (z_), (z_), (ua_ (z_) 4 (nI 8)), (flr (z_) (32) NONE_), (flr (z_) (32) NONE_), (z_), (z_), (ua_ (z_) 4 (nI 8)), (flr (z_) (32) NONE_), (flr (z_) (32) NONE_), (z_), (z_), (ua_ (z_) 4 (nI 8)), (flr (z_) (32) NONE_), (flr (z_) (32) NONE_), (z_), (z_), (ua_ (z_) 0 (nI 2)), (z_), (z_), (z_), (flr (z_) (2) NONE_), (flr (z_) (2) NONE_), (z_), (z_), (flr (z_) (2) NONE_), (flr (z_) (2) NONE_), (z_), (z_), (flr (z_) (2) NONE_), (flr (z_) (2) NONE_), (z_), (z_), (flr (z_) (2) NONE_), (flr (z_) (2) NONE_), (z_), (z_), (flr (z_) (2) NONE_), (flr (z_) (2) NONE_), (z_), (z_), (flr (z_) (2) NONE_), (flr (z_) (2) NONE_), (z_)]
noncomputable def ZG26 (n : Nat) : Ly := [(9, 8, [some (n + 1), some (n + 3), some (n + 6), some (n + 7), some (n + 8), some (n + 13), some (n + 14), some (n + 20)]), (6, 2, [some (n + 2), none]), (11, 64, []), (7, 6, [some (n + 4), some (n + 5), none, none, none, none]), (12, 32, []), (12, 32, []), (14, 4, [some (n + 21), some (n + 26), some (n + 31), some (n + 36)]), (16, 4, [some (n + 41), none, none, none]), (4, 6, [some (n + 9), some (n + 10), some (n + 11), some (n + 12), none, none]), (12, 16, []), (12, 16, []), (12, 16, []), (12, 144, []), (8, 4, [none, none, none, none]), (3, 5, [some (n + 15), some (n + 16), some (n + 17), some (n + 18), some (n + 19)]), (12, 42, []), (12, 42, []), (12, 42, []), (12, 3, []), (13, 6, []), (17, 2, [none, none]), (0, 5, [some (n + 22), some (n + 23), some (n + 24), some (n + 25), none]), (12, 32, []), (12, 32, []), (12, 32, []), (12, 32, []), (0, 5, [some (n + 27), some (n + 28), some (n + 29), some (n + 30), none]), (12, 32, []), (12, 32, []), (12, 32, []), (12, 32, []), (0, 5, [some (n + 32), some (n + 33), some (n + 34), some (n + 35), none]), (12, 32, []), (12, 32, []), (12, 32, []), (12, 32, []), (0, 5, [some (n + 37), some (n + 38), some (n + 39), some (n + 40), none]), (12, 32, []), (12, 32, []), (12, 32, []), (12, 32, []), (2, 3, [none, some (n + 42), some (n + 43)]), (15, 6, [some (n + 44), some (n + 48), some (n + 52), some (n + 56), some (n + 60), some (n + 64)]), (12, 3, []), (1, 3, [some (n + 45), some (n + 46), some (n + 47)]), (12, 2, []), (12, 2, []), (13, 2, []), (1, 3, [some (n + 49), some (n + 50), some (n + 51)]), (12, 2, []), (12, 2, []), (13, 2, []), (1, 3, [some (n + 53), some (n + 54), some (n + 55)]), (12, 2, []), (12, 2, []), (13, 2, []), (1, 3, [some (n + 57), some (n + 58), some (n + 59)]), (12, 2, []), (12, 2, []), (13, 2, []), (1, 3, [some (n + 61), some (n + 62), some (n + 63)]), (12, 2, []), (12, 2, []), (13, 2, []), (1, 3, [some (n + 65), some (n + 66), some (n + 67)]), (12, 2, []), (12, 2, []), (13, 2, [])]
set_option maxHeartbeats 1000000 in
theorem slG26 {n : Nat} : sl_ (ZG26 n) = 1094 := by
  have e : ZG26 n = (ZG25 n).set 7 (16, 4, [some (n + 41), none, none, none]) := rfl
  rw [e]
  exact (sl_st (e := (16, 4, [none, none, none, none])) (e2 := (16, 4, [some (n + 41), none, none, none])) rfl rfl).trans slG25
set_option maxHeartbeats 1000000 in
theorem lnG26 {n : Nat} : (ZG26 n).length = 68 := by
  have e : ZG26 n = (ZG25 n).set 7 (16, 4, [some (n + 41), none, none, none]) := rfl
  rw [e, List.length_set, lnG25]
noncomputable def ZG27 (n : Nat) : Ly := [(9, 8, [some (n + 1), some (n + 3), some (n + 6), some (n + 7), some (n + 8), some (n + 13), some (n + 14), some (n + 20)]), (6, 2, [some (n + 2), none]), (11, 64, []), (7, 6, [some (n + 4), some (n + 5), none, none, none, none]), (12, 32, []), (12, 32, []), (14, 4, [some (n + 21), some (n + 26), some (n + 31), some (n + 36)]), (16, 4, [some (n + 41), none, none, none]), (4, 6, [some (n + 9), some (n + 10), some (n + 11), some (n + 12), none, none]), (12, 16, []), (12, 16, []), (12, 16, []), (12, 144, []), (8, 4, [none, none, none, none]), (3, 5, [some (n + 15), some (n + 16), some (n + 17), some (n + 18), some (n + 19)]), (12, 42, []), (12, 42, []), (12, 42, []), (12, 3, []), (13, 6, []), (17, 2, [none, none]), (0, 5, [some (n + 22), some (n + 23), some (n + 24), some (n + 25), none]), (12, 32, []), (12, 32, []), (12, 32, []), (12, 32, []), (0, 5, [some (n + 27), some (n + 28), some (n + 29), some (n + 30), none]), (12, 32, []), (12, 32, []), (12, 32, []), (12, 32, []), (0, 5, [some (n + 32), some (n + 33), some (n + 34), some (n + 35), none]), (12, 32, []), (12, 32, []), (12, 32, []), (12, 32, []), (0, 5, [some (n + 37), some (n + 38), some (n + 39), some (n + 40), none]), (12, 32, []), (12, 32, []), (12, 32, []), (12, 32, []), (2, 3, [none, some (n + 42), some (n + 43)]), (15, 6, [some (n + 44), some (n + 48), some (n + 52), some (n + 56), some (n + 60), some (n + 64)]), (12, 3, []), (1, 3, [some (n + 45), some (n + 46), some (n + 47)]), (12, 2, []), (12, 2, []), (13, 2, []), (1, 3, [some (n + 49), some (n + 50), some (n + 51)]), (12, 2, []), (12, 2, []), (13, 2, []), (1, 3, [some (n + 53), some (n + 54), some (n + 55)]), (12, 2, []), (12, 2, []), (13, 2, []), (1, 3, [some (n + 57), some (n + 58), some (n + 59)]), (12, 2, []), (12, 2, []), (13, 2, []), (1, 3, [some (n + 61), some (n + 62), some (n + 63)]), (12, 2, []), (12, 2, []), (13, 2, []), (1, 3, [some (n + 65), some (n + 66), some (n + 67)]), (12, 2, []), (12, 2, []), (13, 2, []), (2, 3, [none, some (n + 69), some (n + 70)]), (15, 6, [some (n + 71), some (n + 75), some (n + 79), some (n + 83), some (n + 87), some (n + 91)]), (12, 3, []), (1, 3, [some (n + 72), some (n + 73), some (n + 74)]), (12, 4, []), (12, 4, []), (13, 4, []), (1, 3, [some (n + 76), some (n + 77), some (n + 78)]), (12, 4, []), (12, 4, []), (13, 4, []), (1, 3, [some (n + 80), some (n + 81), some (n + 82)]), (12, 4, []), (12, 4, []), (13, 4, []), (1, 3, [some (n + 84), some (n + 85), some (n + 86)]), (12, 4, []), (12, 4, []), (13, 4, []), (1, 3, [some (n + 88), some (n + 89), some (n + 90)]), (12, 4, []), (12, 4, []), (13, 4, []), (1, 3, [some (n + 92), some (n + 93), some (n + 94)]), (12, 4, []), (12, 4, []), (13, 4, [])]
set_option maxHeartbeats 1000000 in
theorem slG27 {n : Nat} : sl_ (ZG27 n) = 1196 := by
  have e : ZG27 n = ZG26 n ++ [(2, 3, [none, some (n + 69), some (n + 70)]), (15, 6, [some (n + 71), some (n + 75), some (n + 79), some (n + 83), some (n + 87), some (n + 91)]), (12, 3, []), (1, 3, [some (n + 72), some (n + 73), some (n + 74)]), (12, 4, []), (12, 4, []), (13, 4, []), (1, 3, [some (n + 76), some (n + 77), some (n + 78)]), (12, 4, []), (12, 4, []), (13, 4, []), (1, 3, [some (n + 80), some (n + 81), some (n + 82)]), (12, 4, []), (12, 4, []), (13, 4, []), (1, 3, [some (n + 84), some (n + 85), some (n + 86)]), (12, 4, []), (12, 4, []), (13, 4, []), (1, 3, [some (n + 88), some (n + 89), some (n + 90)]), (12, 4, []), (12, 4, []), (13, 4, []), (1, 3, [some (n + 92), some (n + 93), some (n + 94)]), (12, 4, []), (12, 4, []), (13, 4, [])] := rfl
  rw [e, sl_app, slG26]; simp [sl_]
set_option maxHeartbeats 1000000 in
theorem lnG27 {n : Nat} : (ZG27 n).length = 95 := by
  have e : ZG27 n = ZG26 n ++ [(2, 3, [none, some (n + 69), some (n + 70)]), (15, 6, [some (n + 71), some (n + 75), some (n + 79), some (n + 83), some (n + 87), some (n + 91)]), (12, 3, []), (1, 3, [some (n + 72), some (n + 73), some (n + 74)]), (12, 4, []), (12, 4, []), (13, 4, []), (1, 3, [some (n + 76), some (n + 77), some (n + 78)]), (12, 4, []), (12, 4, []), (13, 4, []), (1, 3, [some (n + 80), some (n + 81), some (n + 82)]), (12, 4, []), (12, 4, []), (13, 4, []), (1, 3, [some (n + 84), some (n + 85), some (n + 86)]), (12, 4, []), (12, 4, []), (13, 4, []), (1, 3, [some (n + 88), some (n + 89), some (n + 90)]), (12, 4, []), (12, 4, []), (13, 4, []), (1, 3, [some (n + 92), some (n + 93), some (n + 94)]), (12, 4, []), (12, 4, []), (13, 4, [])] := rfl
  rw [e, List.length_append, lnG26]; rfl
noncomputable def RG14 : List (Nat → Int32) := [(z_), (ua_ (z_) 1 (nI 0)), (z_), (ua_ (ua_ (ua_ (ua_ (z_) 2 (nI 0)) 3 (NONE_)) 4 (nI 0)) 5 (nI 0)), (z_), (z_), (z_), (z_), (ua_ (ua_ (z_) 4 (nI 0)) 5 (nI 0)), (z_), (z_), (z_), (flr (z_) (144) NONE_), (ua_ (ua_ (ua_ (ua_ (z_) 0 (nI 0)) 1 (nI 0)) 2 (nI 0)) 3 (nI 0)), (z_), (z_), (z_), (z_), (z_), (z_), (z_), (ua_ (z_) 4 (nI 8)), (flr (z_) (32) NONE_), (flr (z_) (32) NONE_), (z_), (z_), (ua_ (z_) 4 (nI 8)), (flr (z_) (32) NONE_), (flr (z_) (32) NONE_), (z_), (z_), (ua_ (z_) 4 (nI 8)), (flr (z_) (32) NONE_), (flr (z_) (32) NONE_), (z_), (z_), (ua_ (z_) 4 (nI 8)), (flr (z_) (32) NONE_), (flr (z_) (32) NONE_), (z_), (z_), (ua_ (z_) 0 (nI 2)), (z_), (z_), (z_), (flr (z_) (2) NONE_), (flr (z_) (2) NONE_), (z_), (z_), (flr (z_) (2) NONE_), (flr (z_) (2) NONE_), (z_), (z_), (flr (z_) (2) NONE_), (flr (z_) (2) NONE_), (z_), (z_), (flr (z_) (2) NONE_), (flr (z_) (2) NONE_), (z_), (z_), (flr (z_) (2) NONE_), (flr (z_) (2) NONE_), (z_), (z_), (flr (z_) (2) NONE_), (flr (z_) (2) NONE_), (z_), (ua_ (z_) 0 (nI 4)), (z_), (z_), (z_), (flr (z_) (4) NONE_), (flr (z_) (4) NONE_), (z_), (z_), (flr (z_) (4) NONE_), (flr (z_) (4) NONE_), (z_), (z_), (flr (z_) (4) NONE_), (flr (z_) (4) NONE_), (z_), (z_), (flr (z_) (4) NONE_), (flr (z_) (4) NONE_), (z_), (z_), (flr (z_) (4) NONE_), (flr (z_) (4) NONE_), (z_), (z_), (flr (z_) (4) NONE_), (flr (z_) (4) NONE_), (z_)]
noncomputable def ZG28 (n : Nat) : Ly := [(9, 8, [some (n + 1), some (n + 3), some (n + 6), some (n + 7), some (n + 8), some (n + 13), some (n + 14), some (n + 20)]), (6, 2, [some (n + 2), none]), (11, 64, []), (7, 6, [some (n + 4), some (n + 5), none, none, none, none]), (12, 32, []), (12, 32, []), (14, 4, [some (n + 21), some (n + 26), some (n + 31), some (n + 36)]), (16, 4, [some (n + 41), some (n + 68), none, none]), (4, 6, [some (n + 9), some (n + 10), some (n + 11), some (n + 12), none, none]), (12, 16, []), (12, 16, []), (12, 16, []), (12, 144, []), (8, 4, [none, none, none, none]), (3, 5, [some (n + 15), some (n + 16), some (n + 17), some (n + 18), some (n + 19)]), (12, 42, []), (12, 42, []), (12, 42, []), (12, 3, []), (13, 6, []), (17, 2, [none, none]), (0, 5, [some (n + 22), some (n + 23), some (n + 24), some (n + 25), none]), (12, 32, []), (12, 32, []), (12, 32, []), (12, 32, []), (0, 5, [some (n + 27), some (n + 28), some (n + 29), some (n + 30), none]), (12, 32, []), (12, 32, []), (12, 32, []), (12, 32, []), (0, 5, [some (n + 32), some (n + 33), some (n + 34), some (n + 35), none]), (12, 32, []), (12, 32, []), (12, 32, []), (12, 32, []), (0, 5, [some (n + 37), some (n + 38), some (n + 39), some (n + 40), none]), (12, 32, []), (12, 32, []), (12, 32, []), (12, 32, []), (2, 3, [none, some (n + 42), some (n + 43)]), (15, 6, [some (n + 44), some (n + 48), some (n + 52), some (n + 56), some (n + 60), some (n + 64)]), (12, 3, []), (1, 3, [some (n + 45), some (n + 46), some (n + 47)]), (12, 2, []), (12, 2, []), (13, 2, []), (1, 3, [some (n + 49), some (n + 50), some (n + 51)]), (12, 2, []), (12, 2, []), (13, 2, []), (1, 3, [some (n + 53), some (n + 54), some (n + 55)]), (12, 2, []), (12, 2, []), (13, 2, []), (1, 3, [some (n + 57), some (n + 58), some (n + 59)]), (12, 2, []), (12, 2, []), (13, 2, []), (1, 3, [some (n + 61), some (n + 62), some (n + 63)]), (12, 2, []), (12, 2, []), (13, 2, []), (1, 3, [some (n + 65), some (n + 66), some (n + 67)]), (12, 2, []), (12, 2, []), (13, 2, []), (2, 3, [none, some (n + 69), some (n + 70)]), (15, 6, [some (n + 71), some (n + 75), some (n + 79), some (n + 83), some (n + 87), some (n + 91)]), (12, 3, []), (1, 3, [some (n + 72), some (n + 73), some (n + 74)]), (12, 4, []), (12, 4, []), (13, 4, []), (1, 3, [some (n + 76), some (n + 77), some (n + 78)]), (12, 4, []), (12, 4, []), (13, 4, []), (1, 3, [some (n + 80), some (n + 81), some (n + 82)]), (12, 4, []), (12, 4, []), (13, 4, []), (1, 3, [some (n + 84), some (n + 85), some (n + 86)]), (12, 4, []), (12, 4, []), (13, 4, []), (1, 3, [some (n + 88), some (n + 89), some (n + 90)]), (12, 4, []), (12, 4, []), (13, 4, []), (1, 3, [some (n + 92), some (n + 93), some (n + 94)]), (12, 4, []), (12, 4, []), (13, 4, [])]
set_option maxHeartbeats 1000000 in
theorem slG28 {n : Nat} : sl_ (ZG28 n) = 1196 := by
  have e : ZG28 n = (ZG27 n).set 7 (16, 4, [some (n + 41), some (n + 68), none, none]) := rfl
  rw [e]
  exact (sl_st (e := (16, 4, [some (n + 41), none, none, none])) (e2 := (16, 4, [some (n + 41), some (n + 68), none, none])) rfl rfl).trans slG27
set_option maxHeartbeats 1000000 in
theorem lnG28 {n : Nat} : (ZG28 n).length = 95 := by
  have e : ZG28 n = (ZG27 n).set 7 (16, 4, [some (n + 41), some (n + 68), none, none]) := rfl
  rw [e, List.length_set, lnG27]
noncomputable def ZG29 (n : Nat) : Ly := [(9, 8, [some (n + 1), some (n + 3), some (n + 6), some (n + 7), some (n + 8), some (n + 13), some (n + 14), some (n + 20)]), (6, 2, [some (n + 2), none]), (11, 64, []), (7, 6, [some (n + 4), some (n + 5), none, none, none, none]), (12, 32, []), (12, 32, []), (14, 4, [some (n + 21), some (n + 26), some (n + 31), some (n + 36)]), (16, 4, [some (n + 41), some (n + 68), none, none]), (4, 6, [some (n + 9), some (n + 10), some (n + 11), some (n + 12), none, none]), (12, 16, []), (12, 16, []), (12, 16, []), (12, 144, []), (8, 4, [none, none, none, none]), (3, 5, [some (n + 15), some (n + 16), some (n + 17), some (n + 18), some (n + 19)]), (12, 42, []), (12, 42, []), (12, 42, []), (12, 3, []), (13, 6, []), (17, 2, [none, none]), (0, 5, [some (n + 22), some (n + 23), some (n + 24), some (n + 25), none]), (12, 32, []), (12, 32, []), (12, 32, []), (12, 32, []), (0, 5, [some (n + 27), some (n + 28), some (n + 29), some (n + 30), none]), (12, 32, []), (12, 32, []), (12, 32, []), (12, 32, []), (0, 5, [some (n + 32), some (n + 33), some (n + 34), some (n + 35), none]), (12, 32, []), (12, 32, []), (12, 32, []), (12, 32, []), (0, 5, [some (n + 37), some (n + 38), some (n + 39), some (n + 40), none]), (12, 32, []), (12, 32, []), (12, 32, []), (12, 32, []), (2, 3, [none, some (n + 42), some (n + 43)]), (15, 6, [some (n + 44), some (n + 48), some (n + 52), some (n + 56), some (n + 60), some (n + 64)]), (12, 3, []), (1, 3, [some (n + 45), some (n + 46), some (n + 47)]), (12, 2, []), (12, 2, []), (13, 2, []), (1, 3, [some (n + 49), some (n + 50), some (n + 51)]), (12, 2, []), (12, 2, []), (13, 2, []), (1, 3, [some (n + 53), some (n + 54), some (n + 55)]), (12, 2, []), (12, 2, []), (13, 2, []), (1, 3, [some (n + 57), some (n + 58), some (n + 59)]), (12, 2, []), (12, 2, []), (13, 2, []), (1, 3, [some (n + 61), some (n + 62), some (n + 63)]), (12, 2, []), (12, 2, []), (13, 2, []), (1, 3, [some (n + 65), some (n + 66), some (n + 67)]), (12, 2, []), (12, 2, []), (13, 2, []), (2, 3, [none, some (n + 69), some (n + 70)]), (15, 6, [some (n + 71), some (n + 75), some (n + 79), some (n + 83), some (n + 87), some (n + 91)]), (12, 3, []), (1, 3, [some (n + 72), some (n + 73), some (n + 74)]), (12, 4, []), (12, 4, []), (13, 4, []), (1, 3, [some (n + 76), some (n + 77), some (n + 78)]), (12, 4, []), (12, 4, []), (13, 4, []), (1, 3, [some (n + 80), some (n + 81), some (n + 82)]), (12, 4, []), (12, 4, []), (13, 4, []), (1, 3, [some (n + 84), some (n + 85), some (n + 86)]), (12, 4, []), (12, 4, []), (13, 4, []), (1, 3, [some (n + 88), some (n + 89), some (n + 90)]), (12, 4, []), (12, 4, []), (13, 4, []), (1, 3, [some (n + 92), some (n + 93), some (n + 94)]), (12, 4, []), (12, 4, []), (13, 4, []), (2, 3, [none, some (n + 96), some (n + 97)]), (15, 6, [some (n + 98), some (n + 102), some (n + 106), some (n + 110), some (n + 114), some (n + 118)]), (12, 3, []), (1, 3, [some (n + 99), some (n + 100), some (n + 101)]), (12, 8, []), (12, 8, []), (13, 8, []), (1, 3, [some (n + 103), some (n + 104), some (n + 105)]), (12, 8, []), (12, 8, []), (13, 8, []), (1, 3, [some (n + 107), some (n + 108), some (n + 109)]), (12, 8, []), (12, 8, []), (13, 8, []), (1, 3, [some (n + 111), some (n + 112), some (n + 113)]), (12, 8, []), (12, 8, []), (13, 8, []), (1, 3, [some (n + 115), some (n + 116), some (n + 117)]), (12, 8, []), (12, 8, []), (13, 8, []), (1, 3, [some (n + 119), some (n + 120), some (n + 121)]), (12, 8, []), (12, 8, []), (13, 8, [])]
set_option maxHeartbeats 1000000 in
theorem slG29 {n : Nat} : sl_ (ZG29 n) = 1370 := by
  have e : ZG29 n = ZG28 n ++ [(2, 3, [none, some (n + 96), some (n + 97)]), (15, 6, [some (n + 98), some (n + 102), some (n + 106), some (n + 110), some (n + 114), some (n + 118)]), (12, 3, []), (1, 3, [some (n + 99), some (n + 100), some (n + 101)]), (12, 8, []), (12, 8, []), (13, 8, []), (1, 3, [some (n + 103), some (n + 104), some (n + 105)]), (12, 8, []), (12, 8, []), (13, 8, []), (1, 3, [some (n + 107), some (n + 108), some (n + 109)]), (12, 8, []), (12, 8, []), (13, 8, []), (1, 3, [some (n + 111), some (n + 112), some (n + 113)]), (12, 8, []), (12, 8, []), (13, 8, []), (1, 3, [some (n + 115), some (n + 116), some (n + 117)]), (12, 8, []), (12, 8, []), (13, 8, []), (1, 3, [some (n + 119), some (n + 120), some (n + 121)]), (12, 8, []), (12, 8, []), (13, 8, [])] := rfl
  rw [e, sl_app, slG28]; simp [sl_]
set_option maxHeartbeats 1000000 in
theorem lnG29 {n : Nat} : (ZG29 n).length = 122 := by
  have e : ZG29 n = ZG28 n ++ [(2, 3, [none, some (n + 96), some (n + 97)]), (15, 6, [some (n + 98), some (n + 102), some (n + 106), some (n + 110), some (n + 114), some (n + 118)]), (12, 3, []), (1, 3, [some (n + 99), some (n + 100), some (n + 101)]), (12, 8, []), (12, 8, []), (13, 8, []), (1, 3, [some (n + 103), some (n + 104), some (n + 105)]), (12, 8, []), (12, 8, []), (13, 8, []), (1, 3, [some (n + 107), some (n + 108), some (n + 109)]), (12, 8, []), (12, 8, []), (13, 8, []), (1, 3, [some (n + 111), some (n + 112), some (n + 113)]), (12, 8, []), (12, 8, []), (13, 8, []), (1, 3, [some (n + 115), some (n + 116), some (n + 117)]), (12, 8, []), (12, 8, []), (13, 8, []), (1, 3, [some (n + 119), some (n + 120), some (n + 121)]), (12, 8, []), (12, 8, []), (13, 8, [])] := rfl
  rw [e, List.length_append, lnG28]; rfl
noncomputable def RG15 : List (Nat → Int32) := [(z_), (ua_ (z_) 1 (nI 0)), (z_), (ua_ (ua_ (ua_ (ua_ (z_) 2 (nI 0)) 3 (NONE_)) 4 (nI 0)) 5 (nI 0)), (z_), (z_), (z_), (z_), (ua_ (ua_ (z_) 4 (nI 0)) 5 (nI 0)), (z_), (z_), (z_), (flr (z_) (144) NONE_), (ua_ (ua_ (ua_ (ua_ (z_) 0 (nI 0)) 1 (nI 0)) 2 (nI 0)) 3 (nI 0)), (z_), (z_), (z_), (z_), (z_), (z_), (z_), (ua_ (z_) 4 (nI 8)), (flr (z_) (32) NONE_), (flr (z_) (32) NONE_), (z_), (z_), (ua_ (z_) 4 (nI 8)), (flr (z_) (32) NONE_), (flr (z_) (32) NONE_), (z_), (z_), (ua_ (z_) 4 (nI 8)), (flr (z_) (32) NONE_), (flr (z_) (32) NONE_), (z_), (z_), (ua_ (z_) 4 (nI 8)), (flr (z_) (32) NONE_), (flr (z_) (32) NONE_), (z_), (z_), (ua_ (z_) 0 (nI 2)), (z_), (z_), (z_), (flr (z_) (2) NONE_), (flr (z_) (2) NONE_), (z_), (z_), (flr (z_) (2) NONE_), (flr (z_) (2) NONE_), (z_), (z_), (flr (z_) (2) NONE_), (flr (z_) (2) NONE_), (z_), (z_), (flr (z_) (2) NONE_), (flr (z_) (2) NONE_), (z_), (z_), (flr (z_) (2) NONE_), (flr (z_) (2) NONE_), (z_), (z_), (flr (z_) (2) NONE_), (flr (z_) (2) NONE_), (z_), (ua_ (z_) 0 (nI 4)), (z_), (z_), (z_), (flr (z_) (4) NONE_), (flr (z_) (4) NONE_), (z_), (z_), (flr (z_) (4) NONE_), (flr (z_) (4) NONE_), (z_), (z_), (flr (z_) (4) NONE_), (flr (z_) (4) NONE_), (z_), (z_), (flr (z_) (4) NONE_), (flr (z_) (4) NONE_), (z_), (z_), (flr (z_) (4) NONE_), (flr (z_) (4) NONE_), (z_), (z_), (flr (z_) (4) NONE_), (flr (z_) (4) NONE_), (z_), (ua_ (z_) 0 (nI 8)), (z_), (z_), (z_), (flr (z_) (8) NONE_), (flr (z_) (8) NONE_), (z_), (z_), (flr (z_) (8) NONE_), (flr (z_) (8) NONE_), (z_), (z_), (flr (z_) (8) NONE_), (flr (z_) (8) NONE_), (z_), (z_), (flr (z_) (8) NONE_), (flr (z_) (8) NONE_), (z_), (z_), (flr (z_) (8) NONE_), (flr (z_) (8) NONE_), (z_), (z_), (flr (z_) (8) NONE_), (flr (z_) (8) NONE_), (z_)]
noncomputable def ZG30 (n : Nat) : Ly := [(9, 8, [some (n + 1), some (n + 3), some (n + 6), some (n + 7), some (n + 8), some (n + 13), some (n + 14), some (n + 20)]), (6, 2, [some (n + 2), none]), (11, 64, []), (7, 6, [some (n + 4), some (n + 5), none, none, none, none]), (12, 32, []), (12, 32, []), (14, 4, [some (n + 21), some (n + 26), some (n + 31), some (n + 36)]), (16, 4, [some (n + 41), some (n + 68), some (n + 95), none]), (4, 6, [some (n + 9), some (n + 10), some (n + 11), some (n + 12), none, none]), (12, 16, []), (12, 16, []), (12, 16, []), (12, 144, []), (8, 4, [none, none, none, none]), (3, 5, [some (n + 15), some (n + 16), some (n + 17), some (n + 18), some (n + 19)]), (12, 42, []), (12, 42, []), (12, 42, []), (12, 3, []), (13, 6, []), (17, 2, [none, none]), (0, 5, [some (n + 22), some (n + 23), some (n + 24), some (n + 25), none]), (12, 32, []), (12, 32, []), (12, 32, []), (12, 32, []), (0, 5, [some (n + 27), some (n + 28), some (n + 29), some (n + 30), none]), (12, 32, []), (12, 32, []), (12, 32, []), (12, 32, []), (0, 5, [some (n + 32), some (n + 33), some (n + 34), some (n + 35), none]), (12, 32, []), (12, 32, []), (12, 32, []), (12, 32, []), (0, 5, [some (n + 37), some (n + 38), some (n + 39), some (n + 40), none]), (12, 32, []), (12, 32, []), (12, 32, []), (12, 32, []), (2, 3, [none, some (n + 42), some (n + 43)]), (15, 6, [some (n + 44), some (n + 48), some (n + 52), some (n + 56), some (n + 60), some (n + 64)]), (12, 3, []), (1, 3, [some (n + 45), some (n + 46), some (n + 47)]), (12, 2, []), (12, 2, []), (13, 2, []), (1, 3, [some (n + 49), some (n + 50), some (n + 51)]), (12, 2, []), (12, 2, []), (13, 2, []), (1, 3, [some (n + 53), some (n + 54), some (n + 55)]), (12, 2, []), (12, 2, []), (13, 2, []), (1, 3, [some (n + 57), some (n + 58), some (n + 59)]), (12, 2, []), (12, 2, []), (13, 2, []), (1, 3, [some (n + 61), some (n + 62), some (n + 63)]), (12, 2, []), (12, 2, []), (13, 2, []), (1, 3, [some (n + 65), some (n + 66), some (n + 67)]), (12, 2, []), (12, 2, []), (13, 2, []), (2, 3, [none, some (n + 69), some (n + 70)]), (15, 6, [some (n + 71), some (n + 75), some (n + 79), some (n + 83), some (n + 87), some (n + 91)]), (12, 3, []), (1, 3, [some (n + 72), some (n + 73), some (n + 74)]), (12, 4, []), (12, 4, []), (13, 4, []), (1, 3, [some (n + 76), some (n + 77), some (n + 78)]), (12, 4, []), (12, 4, []), (13, 4, []), (1, 3, [some (n + 80), some (n + 81), some (n + 82)]), (12, 4, []), (12, 4, []), (13, 4, []), (1, 3, [some (n + 84), some (n + 85), some (n + 86)]), (12, 4, []), (12, 4, []), (13, 4, []), (1, 3, [some (n + 88), some (n + 89), some (n + 90)]), (12, 4, []), (12, 4, []), (13, 4, []), (1, 3, [some (n + 92), some (n + 93), some (n + 94)]), (12, 4, []), (12, 4, []), (13, 4, []), (2, 3, [none, some (n + 96), some (n + 97)]), (15, 6, [some (n + 98), some (n + 102), some (n + 106), some (n + 110), some (n + 114), some (n + 118)]), (12, 3, []), (1, 3, [some (n + 99), some (n + 100), some (n + 101)]), (12, 8, []), (12, 8, []), (13, 8, []), (1, 3, [some (n + 103), some (n + 104), some (n + 105)]), (12, 8, []), (12, 8, []), (13, 8, []), (1, 3, [some (n + 107), some (n + 108), some (n + 109)]), (12, 8, []), (12, 8, []), (13, 8, []), (1, 3, [some (n + 111), some (n + 112), some (n + 113)]), (12, 8, []), (12, 8, []), (13, 8, []), (1, 3, [some (n + 115), some (n + 116), some (n + 117)]), (12, 8, []), (12, 8, []), (13, 8, []), (1, 3, [some (n + 119), some (n + 120), some (n + 121)]), (12, 8, []), (12, 8, []), (13, 8, [])]
set_option maxHeartbeats 1000000 in
theorem slG30 {n : Nat} : sl_ (ZG30 n) = 1370 := by
  have e : ZG30 n = (ZG29 n).set 7 (16, 4, [some (n + 41), some (n + 68), some (n + 95), none]) := rfl
  rw [e]
  exact (sl_st (e := (16, 4, [some (n + 41), some (n + 68), none, none])) (e2 := (16, 4, [some (n + 41), some (n + 68), some (n + 95), none])) rfl rfl).trans slG29
set_option maxHeartbeats 1000000 in
theorem lnG30 {n : Nat} : (ZG30 n).length = 122 := by
  have e : ZG30 n = (ZG29 n).set 7 (16, 4, [some (n + 41), some (n + 68), some (n + 95), none]) := rfl
  rw [e, List.length_set, lnG29]
noncomputable def ZG31 (n : Nat) : Ly := [(9, 8, [some (n + 1), some (n + 3), some (n + 6), some (n + 7), some (n + 8), some (n + 13), some (n + 14), some (n + 20)]), (6, 2, [some (n + 2), none]), (11, 64, []), (7, 6, [some (n + 4), some (n + 5), none, none, none, none]), (12, 32, []), (12, 32, []), (14, 4, [some (n + 21), some (n + 26), some (n + 31), some (n + 36)]), (16, 4, [some (n + 41), some (n + 68), some (n + 95), none]), (4, 6, [some (n + 9), some (n + 10), some (n + 11), some (n + 12), none, none]), (12, 16, []), (12, 16, []), (12, 16, []), (12, 144, []), (8, 4, [none, none, none, none]), (3, 5, [some (n + 15), some (n + 16), some (n + 17), some (n + 18), some (n + 19)]), (12, 42, []), (12, 42, []), (12, 42, []), (12, 3, []), (13, 6, []), (17, 2, [none, none]), (0, 5, [some (n + 22), some (n + 23), some (n + 24), some (n + 25), none]), (12, 32, []), (12, 32, []), (12, 32, []), (12, 32, []), (0, 5, [some (n + 27), some (n + 28), some (n + 29), some (n + 30), none]), (12, 32, []), (12, 32, []), (12, 32, []), (12, 32, []), (0, 5, [some (n + 32), some (n + 33), some (n + 34), some (n + 35), none]), (12, 32, []), (12, 32, []), (12, 32, []), (12, 32, []), (0, 5, [some (n + 37), some (n + 38), some (n + 39), some (n + 40), none]), (12, 32, []), (12, 32, []), (12, 32, []), (12, 32, []), (2, 3, [none, some (n + 42), some (n + 43)]), (15, 6, [some (n + 44), some (n + 48), some (n + 52), some (n + 56), some (n + 60), some (n + 64)]), (12, 3, []), (1, 3, [some (n + 45), some (n + 46), some (n + 47)]), (12, 2, []), (12, 2, []), (13, 2, []), (1, 3, [some (n + 49), some (n + 50), some (n + 51)]), (12, 2, []), (12, 2, []), (13, 2, []), (1, 3, [some (n + 53), some (n + 54), some (n + 55)]), (12, 2, []), (12, 2, []), (13, 2, []), (1, 3, [some (n + 57), some (n + 58), some (n + 59)]), (12, 2, []), (12, 2, []), (13, 2, []), (1, 3, [some (n + 61), some (n + 62), some (n + 63)]), (12, 2, []), (12, 2, []), (13, 2, []), (1, 3, [some (n + 65), some (n + 66), some (n + 67)]), (12, 2, []), (12, 2, []), (13, 2, []), (2, 3, [none, some (n + 69), some (n + 70)]), (15, 6, [some (n + 71), some (n + 75), some (n + 79), some (n + 83), some (n + 87), some (n + 91)]), (12, 3, []), (1, 3, [some (n + 72), some (n + 73), some (n + 74)]), (12, 4, []), (12, 4, []), (13, 4, []), (1, 3, [some (n + 76), some (n + 77), some (n + 78)]), (12, 4, []), (12, 4, []), (13, 4, []), (1, 3, [some (n + 80), some (n + 81), some (n + 82)]), (12, 4, []), (12, 4, []), (13, 4, []), (1, 3, [some (n + 84), some (n + 85), some (n + 86)]), (12, 4, []), (12, 4, []), (13, 4, []), (1, 3, [some (n + 88), some (n + 89), some (n + 90)]), (12, 4, []), (12, 4, []), (13, 4, []), (1, 3, [some (n + 92), some (n + 93), some (n + 94)]), (12, 4, []), (12, 4, []), (13, 4, []), (2, 3, [none, some (n + 96), some (n + 97)]), (15, 6, [some (n + 98), some (n + 102), some (n + 106), some (n + 110), some (n + 114), some (n + 118)]), (12, 3, []), (1, 3, [some (n + 99), some (n + 100), some (n + 101)]), (12, 8, []), (12, 8, []), (13, 8, []), (1, 3, [some (n + 103), some (n + 104), some (n + 105)]), (12, 8, []), (12, 8, []), (13, 8, []), (1, 3, [some (n + 107), some (n + 108), some (n + 109)]), (12, 8, []), (12, 8, []), (13, 8, []), (1, 3, [some (n + 111), some (n + 112), some (n + 113)]), (12, 8, []), (12, 8, []), (13, 8, []), (1, 3, [some (n + 115), some (n + 116), some (n + 117)]), (12, 8, []), (12, 8, []), (13, 8, []), (1, 3, [some (n + 119), some (n + 120), some (n + 121)]), (12, 8, []), (12, 8, []), (13, 8, []), (2, 3, [none, some (n + 123), some (n + 124)]), (15, 6, [some (n + 125), some (n + 129), some (n + 133), some (n + 137), some (n + 141), some (n + 145)]), (12, 3, []), (1, 3, [some (n + 126), some (n + 127), some (n + 128)]), (12, 16, []), (12, 16, []), (13, 16, []), (1, 3, [some (n + 130), some (n + 131), some (n + 132)]), (12, 16, []), (12, 16, []), (13, 16, []), (1, 3, [some (n + 134), some (n + 135), some (n + 136)]), (12, 16, []), (12, 16, []), (13, 16, []), (1, 3, [some (n + 138), some (n + 139), some (n + 140)]), (12, 16, []), (12, 16, []), (13, 16, []), (1, 3, [some (n + 142), some (n + 143), some (n + 144)]), (12, 16, []), (12, 16, []), (13, 16, []), (1, 3, [some (n + 146), some (n + 147), some (n + 148)]), (12, 16, []), (12, 16, []), (13, 16, [])]
set_option maxHeartbeats 1000000 in
theorem slG31 {n : Nat} : sl_ (ZG31 n) = 1688 := by
  have e : ZG31 n = ZG30 n ++ [(2, 3, [none, some (n + 123), some (n + 124)]), (15, 6, [some (n + 125), some (n + 129), some (n + 133), some (n + 137), some (n + 141), some (n + 145)]), (12, 3, []), (1, 3, [some (n + 126), some (n + 127), some (n + 128)]), (12, 16, []), (12, 16, []), (13, 16, []), (1, 3, [some (n + 130), some (n + 131), some (n + 132)]), (12, 16, []), (12, 16, []), (13, 16, []), (1, 3, [some (n + 134), some (n + 135), some (n + 136)]), (12, 16, []), (12, 16, []), (13, 16, []), (1, 3, [some (n + 138), some (n + 139), some (n + 140)]), (12, 16, []), (12, 16, []), (13, 16, []), (1, 3, [some (n + 142), some (n + 143), some (n + 144)]), (12, 16, []), (12, 16, []), (13, 16, []), (1, 3, [some (n + 146), some (n + 147), some (n + 148)]), (12, 16, []), (12, 16, []), (13, 16, [])] := rfl
  rw [e, sl_app, slG30]; simp [sl_]
set_option maxHeartbeats 1000000 in
theorem lnG31 {n : Nat} : (ZG31 n).length = 149 := by
  have e : ZG31 n = ZG30 n ++ [(2, 3, [none, some (n + 123), some (n + 124)]), (15, 6, [some (n + 125), some (n + 129), some (n + 133), some (n + 137), some (n + 141), some (n + 145)]), (12, 3, []), (1, 3, [some (n + 126), some (n + 127), some (n + 128)]), (12, 16, []), (12, 16, []), (13, 16, []), (1, 3, [some (n + 130), some (n + 131), some (n + 132)]), (12, 16, []), (12, 16, []), (13, 16, []), (1, 3, [some (n + 134), some (n + 135), some (n + 136)]), (12, 16, []), (12, 16, []), (13, 16, []), (1, 3, [some (n + 138), some (n + 139), some (n + 140)]), (12, 16, []), (12, 16, []), (13, 16, []), (1, 3, [some (n + 142), some (n + 143), some (n + 144)]), (12, 16, []), (12, 16, []), (13, 16, []), (1, 3, [some (n + 146), some (n + 147), some (n + 148)]), (12, 16, []), (12, 16, []), (13, 16, [])] := rfl
  rw [e, List.length_append, lnG30]; rfl
noncomputable def RG16 : List (Nat → Int32) := [(z_), (ua_ (z_) 1 (nI 0)), (z_), (ua_ (ua_ (ua_ (ua_ (z_) 2 (nI 0)) 3 (NONE_)) 4 (nI 0)) 5 (nI 0)), (z_), (z_), (z_), (z_), (ua_ (ua_ (z_) 4 (nI 0)) 5 (nI 0)), (z_), (z_), (z_), (flr (z_) (144) NONE_), (ua_ (ua_ (ua_ (ua_ (z_) 0 (nI 0)) 1 (nI 0)) 2 (nI 0)) 3 (nI 0)), (z_), (z_), (z_), (z_), (z_), (z_), (z_), (ua_ (z_) 4 (nI 8)), (flr (z_) (32) NONE_), (flr (z_) (32) NONE_), (z_), (z_), (ua_ (z_) 4 (nI 8)), (flr (z_) (32) NONE_), (flr (z_) (32) NONE_), (z_), (z_), (ua_ (z_) 4 (nI 8)), (flr (z_) (32) NONE_), (flr (z_) (32) NONE_), (z_), (z_), (ua_ (z_) 4 (nI 8)), (flr (z_) (32) NONE_), (flr (z_) (32) NONE_), (z_), (z_), (ua_ (z_) 0 (nI 2)), (z_), (z_), (z_), (flr (z_) (2) NONE_), (flr (z_) (2) NONE_), (z_), (z_), (flr (z_) (2) NONE_), (flr (z_) (2) NONE_), (z_), (z_), (flr (z_) (2) NONE_), (flr (z_) (2) NONE_), (z_), (z_), (flr (z_) (2) NONE_), (flr (z_) (2) NONE_), (z_), (z_), (flr (z_) (2) NONE_), (flr (z_) (2) NONE_), (z_), (z_), (flr (z_) (2) NONE_), (flr (z_) (2) NONE_), (z_), (ua_ (z_) 0 (nI 4)), (z_), (z_), (z_), (flr (z_) (4) NONE_), (flr (z_) (4) NONE_), (z_), (z_), (flr (z_) (4) NONE_), (flr (z_) (4) NONE_), (z_), (z_), (flr (z_) (4) NONE_), (flr (z_) (4) NONE_), (z_), (z_), (flr (z_) (4) NONE_), (flr (z_) (4) NONE_), (z_), (z_), (flr (z_) (4) NONE_), (flr (z_) (4) NONE_), (z_), (z_), (flr (z_) (4) NONE_), (flr (z_) (4) NONE_), (z_), (ua_ (z_) 0 (nI 8)), (z_), (z_), (z_), (flr (z_) (8) NONE_), (flr (z_) (8) NONE_), (z_), (z_), (flr (z_) (8) NONE_), (flr (z_) (8) NONE_), (z_), (z_), (flr (z_) (8) NONE_), (flr (z_) (8) NONE_), (z_), (z_), (flr (z_) (8) NONE_), (flr (z_) (8) NONE_), (z_), (z_), (flr (z_) (8) NONE_), (flr (z_) (8) NONE_), (z_), (z_), (flr (z_) (8) NONE_), (flr (z_) (8) NONE_), (z_), (ua_ (z_) 0 (nI 16)), (z_), (z_), (z_), (flr (z_) (16) NONE_), (flr (z_) (16) NONE_), (z_), (z_), (flr (z_) (16) NONE_), (flr (z_) (16) NONE_), (z_), (z_), (flr (z_) (16) NONE_), (flr (z_) (16) NONE_), (z_), (z_), (flr (z_) (16) NONE_), (flr (z_) (16) NONE_), (z_), (z_), (flr (z_) (16) NONE_), (flr (z_) (16) NONE_), (z_), (z_), (flr (z_) (16) NONE_), (flr (z_) (16) NONE_), (z_)]
noncomputable def ZG32 (n : Nat) : Ly := [(9, 8, [some (n + 1), some (n + 3), some (n + 6), some (n + 7), some (n + 8), some (n + 13), some (n + 14), some (n + 20)]), (6, 2, [some (n + 2), none]), (11, 64, []), (7, 6, [some (n + 4), some (n + 5), none, none, none, none]), (12, 32, []), (12, 32, []), (14, 4, [some (n + 21), some (n + 26), some (n + 31), some (n + 36)]), (16, 4, [some (n + 41), some (n + 68), some (n + 95), some (n + 122)]), (4, 6, [some (n + 9), some (n + 10), some (n + 11), some (n + 12), none, none]), (12, 16, []), (12, 16, []), (12, 16, []), (12, 144, []), (8, 4, [none, none, none, none]), (3, 5, [some (n + 15), some (n + 16), some (n + 17), some (n + 18), some (n + 19)]), (12, 42, []), (12, 42, []), (12, 42, []), (12, 3, []), (13, 6, []), (17, 2, [none, none]), (0, 5, [some (n + 22), some (n + 23), some (n + 24), some (n + 25), none]), (12, 32, []), (12, 32, []), (12, 32, []), (12, 32, []), (0, 5, [some (n + 27), some (n + 28), some (n + 29), some (n + 30), none]), (12, 32, []), (12, 32, []), (12, 32, []), (12, 32, []), (0, 5, [some (n + 32), some (n + 33), some (n + 34), some (n + 35), none]), (12, 32, []), (12, 32, []), (12, 32, []), (12, 32, []), (0, 5, [some (n + 37), some (n + 38), some (n + 39), some (n + 40), none]), (12, 32, []), (12, 32, []), (12, 32, []), (12, 32, []), (2, 3, [none, some (n + 42), some (n + 43)]), (15, 6, [some (n + 44), some (n + 48), some (n + 52), some (n + 56), some (n + 60), some (n + 64)]), (12, 3, []), (1, 3, [some (n + 45), some (n + 46), some (n + 47)]), (12, 2, []), (12, 2, []), (13, 2, []), (1, 3, [some (n + 49), some (n + 50), some (n + 51)]), (12, 2, []), (12, 2, []), (13, 2, []), (1, 3, [some (n + 53), some (n + 54), some (n + 55)]), (12, 2, []), (12, 2, []), (13, 2, []), (1, 3, [some (n + 57), some (n + 58), some (n + 59)]), (12, 2, []), (12, 2, []), (13, 2, []), (1, 3, [some (n + 61), some (n + 62), some (n + 63)]), (12, 2, []), (12, 2, []), (13, 2, []), (1, 3, [some (n + 65), some (n + 66), some (n + 67)]), (12, 2, []), (12, 2, []), (13, 2, []), (2, 3, [none, some (n + 69), some (n + 70)]), (15, 6, [some (n + 71), some (n + 75), some (n + 79), some (n + 83), some (n + 87), some (n + 91)]), (12, 3, []), (1, 3, [some (n + 72), some (n + 73), some (n + 74)]), (12, 4, []), (12, 4, []), (13, 4, []), (1, 3, [some (n + 76), some (n + 77), some (n + 78)]), (12, 4, []), (12, 4, []), (13, 4, []), (1, 3, [some (n + 80), some (n + 81), some (n + 82)]), (12, 4, []), (12, 4, []), (13, 4, []), (1, 3, [some (n + 84), some (n + 85), some (n + 86)]), (12, 4, []), (12, 4, []), (13, 4, []), (1, 3, [some (n + 88), some (n + 89), some (n + 90)]), (12, 4, []), (12, 4, []), (13, 4, []), (1, 3, [some (n + 92), some (n + 93), some (n + 94)]), (12, 4, []), (12, 4, []), (13, 4, []), (2, 3, [none, some (n + 96), some (n + 97)]), (15, 6, [some (n + 98), some (n + 102), some (n + 106), some (n + 110), some (n + 114), some (n + 118)]), (12, 3, []), (1, 3, [some (n + 99), some (n + 100), some (n + 101)]), (12, 8, []), (12, 8, []), (13, 8, []), (1, 3, [some (n + 103), some (n + 104), some (n + 105)]), (12, 8, []), (12, 8, []), (13, 8, []), (1, 3, [some (n + 107), some (n + 108), some (n + 109)]), (12, 8, []), (12, 8, []), (13, 8, []), (1, 3, [some (n + 111), some (n + 112), some (n + 113)]), (12, 8, []), (12, 8, []), (13, 8, []), (1, 3, [some (n + 115), some (n + 116), some (n + 117)]), (12, 8, []), (12, 8, []), (13, 8, []), (1, 3, [some (n + 119), some (n + 120), some (n + 121)]), (12, 8, []), (12, 8, []), (13, 8, []), (2, 3, [none, some (n + 123), some (n + 124)]), (15, 6, [some (n + 125), some (n + 129), some (n + 133), some (n + 137), some (n + 141), some (n + 145)]), (12, 3, []), (1, 3, [some (n + 126), some (n + 127), some (n + 128)]), (12, 16, []), (12, 16, []), (13, 16, []), (1, 3, [some (n + 130), some (n + 131), some (n + 132)]), (12, 16, []), (12, 16, []), (13, 16, []), (1, 3, [some (n + 134), some (n + 135), some (n + 136)]), (12, 16, []), (12, 16, []), (13, 16, []), (1, 3, [some (n + 138), some (n + 139), some (n + 140)]), (12, 16, []), (12, 16, []), (13, 16, []), (1, 3, [some (n + 142), some (n + 143), some (n + 144)]), (12, 16, []), (12, 16, []), (13, 16, []), (1, 3, [some (n + 146), some (n + 147), some (n + 148)]), (12, 16, []), (12, 16, []), (13, 16, [])]
set_option maxHeartbeats 1000000 in
theorem slG32 {n : Nat} : sl_ (ZG32 n) = 1688 := by
  have e : ZG32 n = (ZG31 n).set 7 (16, 4, [some (n + 41), some (n + 68), some (n + 95), some (n + 122)]) := rfl
  rw [e]
  exact (sl_st (e := (16, 4, [some (n + 41), some (n + 68), some (n + 95), none])) (e2 := (16, 4, [some (n + 41), some (n + 68), some (n + 95), some (n + 122)])) rfl rfl).trans slG31
set_option maxHeartbeats 1000000 in
theorem lnG32 {n : Nat} : (ZG32 n).length = 149 := by
  have e : ZG32 n = (ZG31 n).set 7 (16, 4, [some (n + 41), some (n + 68), some (n + 95), some (n + 122)]) := rfl
  rw [e, List.length_set, lnG31]
noncomputable def ZG33 (n : Nat) : Ly := [(9, 8, [some (n + 1), some (n + 3), some (n + 6), some (n + 7), some (n + 8), some (n + 13), some (n + 14), some (n + 20)]), (6, 2, [some (n + 2), none]), (11, 64, []), (7, 6, [some (n + 4), some (n + 5), none, none, none, none]), (12, 32, []), (12, 32, []), (14, 4, [some (n + 21), some (n + 26), some (n + 31), some (n + 36)]), (16, 4, [some (n + 41), some (n + 68), some (n + 95), some (n + 122)]), (4, 6, [some (n + 9), some (n + 10), some (n + 11), some (n + 12), none, none]), (12, 16, []), (12, 16, []), (12, 16, []), (12, 144, []), (8, 4, [none, none, none, none]), (3, 5, [some (n + 15), some (n + 16), some (n + 17), some (n + 18), some (n + 19)]), (12, 42, []), (12, 42, []), (12, 42, []), (12, 3, []), (13, 6, []), (17, 2, [none, none]), (0, 5, [some (n + 22), some (n + 23), some (n + 24), some (n + 25), none]), (12, 32, []), (12, 32, []), (12, 32, []), (12, 32, []), (0, 5, [some (n + 27), some (n + 28), some (n + 29), some (n + 30), none]), (12, 32, []), (12, 32, []), (12, 32, []), (12, 32, []), (0, 5, [some (n + 32), some (n + 33), some (n + 34), some (n + 35), none]), (12, 32, []), (12, 32, []), (12, 32, []), (12, 32, []), (0, 5, [some (n + 37), some (n + 38), some (n + 39), some (n + 40), none]), (12, 32, []), (12, 32, []), (12, 32, []), (12, 32, []), (2, 3, [none, some (n + 42), some (n + 43)]), (15, 6, [some (n + 44), some (n + 48), some (n + 52), some (n + 56), some (n + 60), some (n + 64)]), (12, 3, []), (1, 3, [some (n + 45), some (n + 46), some (n + 47)]), (12, 2, []), (12, 2, []), (13, 2, []), (1, 3, [some (n + 49), some (n + 50), some (n + 51)]), (12, 2, []), (12, 2, []), (13, 2, []), (1, 3, [some (n + 53), some (n + 54), some (n + 55)]), (12, 2, []), (12, 2, []), (13, 2, []), (1, 3, [some (n + 57), some (n + 58), some (n + 59)]), (12, 2, []), (12, 2, []), (13, 2, []), (1, 3, [some (n + 61), some (n + 62), some (n + 63)]), (12, 2, []), (12, 2, []), (13, 2, []), (1, 3, [some (n + 65), some (n + 66), some (n + 67)]), (12, 2, []), (12, 2, []), (13, 2, []), (2, 3, [none, some (n + 69), some (n + 70)]), (15, 6, [some (n + 71), some (n + 75), some (n + 79), some (n + 83), some (n + 87), some (n + 91)]), (12, 3, []), (1, 3, [some (n + 72), some (n + 73), some (n + 74)]), (12, 4, []), (12, 4, []), (13, 4, []), (1, 3, [some (n + 76), some (n + 77), some (n + 78)]), (12, 4, []), (12, 4, []), (13, 4, []), (1, 3, [some (n + 80), some (n + 81), some (n + 82)]), (12, 4, []), (12, 4, []), (13, 4, []), (1, 3, [some (n + 84), some (n + 85), some (n + 86)]), (12, 4, []), (12, 4, []), (13, 4, []), (1, 3, [some (n + 88), some (n + 89), some (n + 90)]), (12, 4, []), (12, 4, []), (13, 4, []), (1, 3, [some (n + 92), some (n + 93), some (n + 94)]), (12, 4, []), (12, 4, []), (13, 4, []), (2, 3, [none, some (n + 96), some (n + 97)]), (15, 6, [some (n + 98), some (n + 102), some (n + 106), some (n + 110), some (n + 114), some (n + 118)]), (12, 3, []), (1, 3, [some (n + 99), some (n + 100), some (n + 101)]), (12, 8, []), (12, 8, []), (13, 8, []), (1, 3, [some (n + 103), some (n + 104), some (n + 105)]), (12, 8, []), (12, 8, []), (13, 8, []), (1, 3, [some (n + 107), some (n + 108), some (n + 109)]), (12, 8, []), (12, 8, []), (13, 8, []), (1, 3, [some (n + 111), some (n + 112), some (n + 113)]), (12, 8, []), (12, 8, []), (13, 8, []), (1, 3, [some (n + 115), some (n + 116), some (n + 117)]), (12, 8, []), (12, 8, []), (13, 8, []), (1, 3, [some (n + 119), some (n + 120), some (n + 121)]), (12, 8, []), (12, 8, []), (13, 8, []), (2, 3, [none, some (n + 123), some (n + 124)]), (15, 6, [some (n + 125), some (n + 129), some (n + 133), some (n + 137), some (n + 141), some (n + 145)]), (12, 3, []), (1, 3, [some (n + 126), some (n + 127), some (n + 128)]), (12, 16, []), (12, 16, []), (13, 16, []), (1, 3, [some (n + 130), some (n + 131), some (n + 132)]), (12, 16, []), (12, 16, []), (13, 16, []), (1, 3, [some (n + 134), some (n + 135), some (n + 136)]), (12, 16, []), (12, 16, []), (13, 16, []), (1, 3, [some (n + 138), some (n + 139), some (n + 140)]), (12, 16, []), (12, 16, []), (13, 16, []), (1, 3, [some (n + 142), some (n + 143), some (n + 144)]), (12, 16, []), (12, 16, []), (13, 16, []), (1, 3, [some (n + 146), some (n + 147), some (n + 148)]), (12, 16, []), (12, 16, []), (13, 16, []), (5, 2, [some (n + 150), none]), (11, 16, [])]
set_option maxHeartbeats 1000000 in
theorem slG33 {n : Nat} : sl_ (ZG33 n) = 1706 := by
  have e : ZG33 n = ZG32 n ++ [(5, 2, [some (n + 150), none]), (11, 16, [])] := rfl
  rw [e, sl_app, slG32]; simp [sl_]
set_option maxHeartbeats 1000000 in
theorem lnG33 {n : Nat} : (ZG33 n).length = 151 := by
  have e : ZG33 n = ZG32 n ++ [(5, 2, [some (n + 150), none]), (11, 16, [])] := rfl
  rw [e, List.length_append, lnG32]; rfl
noncomputable def RG17 : List (Nat → Int32) := [(z_), (ua_ (z_) 1 (nI 0)), (z_), (ua_ (ua_ (ua_ (ua_ (z_) 2 (nI 0)) 3 (NONE_)) 4 (nI 0)) 5 (nI 0)), (z_), (z_), (z_), (z_), (ua_ (ua_ (z_) 4 (nI 0)) 5 (nI 0)), (z_), (z_), (z_), (flr (z_) (144) NONE_), (ua_ (ua_ (ua_ (ua_ (z_) 0 (nI 0)) 1 (nI 0)) 2 (nI 0)) 3 (nI 0)), (z_), (z_), (z_), (z_), (z_), (z_), (z_), (ua_ (z_) 4 (nI 8)), (flr (z_) (32) NONE_), (flr (z_) (32) NONE_), (z_), (z_), (ua_ (z_) 4 (nI 8)), (flr (z_) (32) NONE_), (flr (z_) (32) NONE_), (z_), (z_), (ua_ (z_) 4 (nI 8)), (flr (z_) (32) NONE_), (flr (z_) (32) NONE_), (z_), (z_), (ua_ (z_) 4 (nI 8)), (flr (z_) (32) NONE_), (flr (z_) (32) NONE_), (z_), (z_), (ua_ (z_) 0 (nI 2)), (z_), (z_), (z_), (flr (z_) (2) NONE_), (flr (z_) (2) NONE_), (z_), (z_), (flr (z_) (2) NONE_), (flr (z_) (2) NONE_), (z_), (z_), (flr (z_) (2) NONE_), (flr (z_) (2) NONE_), (z_), (z_), (flr (z_) (2) NONE_), (flr (z_) (2) NONE_), (z_), (z_), (flr (z_) (2) NONE_), (flr (z_) (2) NONE_), (z_), (z_), (flr (z_) (2) NONE_), (flr (z_) (2) NONE_), (z_), (ua_ (z_) 0 (nI 4)), (z_), (z_), (z_), (flr (z_) (4) NONE_), (flr (z_) (4) NONE_), (z_), (z_), (flr (z_) (4) NONE_), (flr (z_) (4) NONE_), (z_), (z_), (flr (z_) (4) NONE_), (flr (z_) (4) NONE_), (z_), (z_), (flr (z_) (4) NONE_), (flr (z_) (4) NONE_), (z_), (z_), (flr (z_) (4) NONE_), (flr (z_) (4) NONE_), (z_), (z_), (flr (z_) (4) NONE_), (flr (z_) (4) NONE_), (z_), (ua_ (z_) 0 (nI 8)), (z_), (z_), (z_), (flr (z_) (8) NONE_), (flr (z_) (8) NONE_), (z_), (z_), (flr (z_) (8) NONE_), (flr (z_) (8) NONE_), (z_), (z_), (flr (z_) (8) NONE_), (flr (z_) (8) NONE_), (z_), (z_), (flr (z_) (8) NONE_), (flr (z_) (8) NONE_), (z_), (z_), (flr (z_) (8) NONE_), (flr (z_) (8) NONE_), (z_), (z_), (flr (z_) (8) NONE_), (flr (z_) (8) NONE_), (z_), (ua_ (z_) 0 (nI 16)), (z_), (z_), (z_), (flr (z_) (16) NONE_), (flr (z_) (16) NONE_), (z_), (z_), (flr (z_) (16) NONE_), (flr (z_) (16) NONE_), (z_), (z_), (flr (z_) (16) NONE_), (flr (z_) (16) NONE_), (z_), (z_), (flr (z_) (16) NONE_), (flr (z_) (16) NONE_), (z_), (z_), (flr (z_) (16) NONE_), (flr (z_) (16) NONE_), (z_), (z_), (flr (z_) (16) NONE_), (flr (z_) (16) NONE_), (z_), (ua_ (z_) 1 (-1)), (z_)]
noncomputable def ZG34 (n : Nat) : Ly := [(9, 8, [some (n + 1), some (n + 3), some (n + 6), some (n + 7), some (n + 8), some (n + 13), some (n + 14), some (n + 20)]), (6, 2, [some (n + 2), none]), (11, 64, []), (7, 6, [some (n + 4), some (n + 5), none, none, none, none]), (12, 32, []), (12, 32, []), (14, 4, [some (n + 21), some (n + 26), some (n + 31), some (n + 36)]), (16, 4, [some (n + 41), some (n + 68), some (n + 95), some (n + 122)]), (4, 6, [some (n + 9), some (n + 10), some (n + 11), some (n + 12), none, none]), (12, 16, []), (12, 16, []), (12, 16, []), (12, 144, []), (8, 4, [none, none, none, none]), (3, 5, [some (n + 15), some (n + 16), some (n + 17), some (n + 18), some (n + 19)]), (12, 42, []), (12, 42, []), (12, 42, []), (12, 3, []), (13, 6, []), (17, 2, [some (n + 149), none]), (0, 5, [some (n + 22), some (n + 23), some (n + 24), some (n + 25), none]), (12, 32, []), (12, 32, []), (12, 32, []), (12, 32, []), (0, 5, [some (n + 27), some (n + 28), some (n + 29), some (n + 30), none]), (12, 32, []), (12, 32, []), (12, 32, []), (12, 32, []), (0, 5, [some (n + 32), some (n + 33), some (n + 34), some (n + 35), none]), (12, 32, []), (12, 32, []), (12, 32, []), (12, 32, []), (0, 5, [some (n + 37), some (n + 38), some (n + 39), some (n + 40), none]), (12, 32, []), (12, 32, []), (12, 32, []), (12, 32, []), (2, 3, [none, some (n + 42), some (n + 43)]), (15, 6, [some (n + 44), some (n + 48), some (n + 52), some (n + 56), some (n + 60), some (n + 64)]), (12, 3, []), (1, 3, [some (n + 45), some (n + 46), some (n + 47)]), (12, 2, []), (12, 2, []), (13, 2, []), (1, 3, [some (n + 49), some (n + 50), some (n + 51)]), (12, 2, []), (12, 2, []), (13, 2, []), (1, 3, [some (n + 53), some (n + 54), some (n + 55)]), (12, 2, []), (12, 2, []), (13, 2, []), (1, 3, [some (n + 57), some (n + 58), some (n + 59)]), (12, 2, []), (12, 2, []), (13, 2, []), (1, 3, [some (n + 61), some (n + 62), some (n + 63)]), (12, 2, []), (12, 2, []), (13, 2, []), (1, 3, [some (n + 65), some (n + 66), some (n + 67)]), (12, 2, []), (12, 2, []), (13, 2, []), (2, 3, [none, some (n + 69), some (n + 70)]), (15, 6, [some (n + 71), some (n + 75), some (n + 79), some (n + 83), some (n + 87), some (n + 91)]), (12, 3, []), (1, 3, [some (n + 72), some (n + 73), some (n + 74)]), (12, 4, []), (12, 4, []), (13, 4, []), (1, 3, [some (n + 76), some (n + 77), some (n + 78)]), (12, 4, []), (12, 4, []), (13, 4, []), (1, 3, [some (n + 80), some (n + 81), some (n + 82)]), (12, 4, []), (12, 4, []), (13, 4, []), (1, 3, [some (n + 84), some (n + 85), some (n + 86)]), (12, 4, []), (12, 4, []), (13, 4, []), (1, 3, [some (n + 88), some (n + 89), some (n + 90)]), (12, 4, []), (12, 4, []), (13, 4, []), (1, 3, [some (n + 92), some (n + 93), some (n + 94)]), (12, 4, []), (12, 4, []), (13, 4, []), (2, 3, [none, some (n + 96), some (n + 97)]), (15, 6, [some (n + 98), some (n + 102), some (n + 106), some (n + 110), some (n + 114), some (n + 118)]), (12, 3, []), (1, 3, [some (n + 99), some (n + 100), some (n + 101)]), (12, 8, []), (12, 8, []), (13, 8, []), (1, 3, [some (n + 103), some (n + 104), some (n + 105)]), (12, 8, []), (12, 8, []), (13, 8, []), (1, 3, [some (n + 107), some (n + 108), some (n + 109)]), (12, 8, []), (12, 8, []), (13, 8, []), (1, 3, [some (n + 111), some (n + 112), some (n + 113)]), (12, 8, []), (12, 8, []), (13, 8, []), (1, 3, [some (n + 115), some (n + 116), some (n + 117)]), (12, 8, []), (12, 8, []), (13, 8, []), (1, 3, [some (n + 119), some (n + 120), some (n + 121)]), (12, 8, []), (12, 8, []), (13, 8, []), (2, 3, [none, some (n + 123), some (n + 124)]), (15, 6, [some (n + 125), some (n + 129), some (n + 133), some (n + 137), some (n + 141), some (n + 145)]), (12, 3, []), (1, 3, [some (n + 126), some (n + 127), some (n + 128)]), (12, 16, []), (12, 16, []), (13, 16, []), (1, 3, [some (n + 130), some (n + 131), some (n + 132)]), (12, 16, []), (12, 16, []), (13, 16, []), (1, 3, [some (n + 134), some (n + 135), some (n + 136)]), (12, 16, []), (12, 16, []), (13, 16, []), (1, 3, [some (n + 138), some (n + 139), some (n + 140)]), (12, 16, []), (12, 16, []), (13, 16, []), (1, 3, [some (n + 142), some (n + 143), some (n + 144)]), (12, 16, []), (12, 16, []), (13, 16, []), (1, 3, [some (n + 146), some (n + 147), some (n + 148)]), (12, 16, []), (12, 16, []), (13, 16, []), (5, 2, [some (n + 150), none]), (11, 16, [])]
set_option maxHeartbeats 1000000 in
theorem slG34 {n : Nat} : sl_ (ZG34 n) = 1706 := by
  have e : ZG34 n = (ZG33 n).set 20 (17, 2, [some (n + 149), none]) := rfl
  rw [e]
  exact (sl_st (e := (17, 2, [none, none])) (e2 := (17, 2, [some (n + 149), none])) rfl rfl).trans slG33
set_option maxHeartbeats 1000000 in
theorem lnG34 {n : Nat} : (ZG34 n).length = 151 := by
  have e : ZG34 n = (ZG33 n).set 20 (17, 2, [some (n + 149), none]) := rfl
  rw [e, List.length_set, lnG33]
noncomputable def ZG35 (n : Nat) : Ly := [(9, 8, [some (n + 1), some (n + 3), some (n + 6), some (n + 7), some (n + 8), some (n + 13), some (n + 14), some (n + 20)]), (6, 2, [some (n + 2), none]), (11, 64, []), (7, 6, [some (n + 4), some (n + 5), none, none, none, none]), (12, 32, []), (12, 32, []), (14, 4, [some (n + 21), some (n + 26), some (n + 31), some (n + 36)]), (16, 4, [some (n + 41), some (n + 68), some (n + 95), some (n + 122)]), (4, 6, [some (n + 9), some (n + 10), some (n + 11), some (n + 12), none, none]), (12, 16, []), (12, 16, []), (12, 16, []), (12, 144, []), (8, 4, [none, none, none, none]), (3, 5, [some (n + 15), some (n + 16), some (n + 17), some (n + 18), some (n + 19)]), (12, 42, []), (12, 42, []), (12, 42, []), (12, 3, []), (13, 6, []), (17, 2, [some (n + 149), none]), (0, 5, [some (n + 22), some (n + 23), some (n + 24), some (n + 25), none]), (12, 32, []), (12, 32, []), (12, 32, []), (12, 32, []), (0, 5, [some (n + 27), some (n + 28), some (n + 29), some (n + 30), none]), (12, 32, []), (12, 32, []), (12, 32, []), (12, 32, []), (0, 5, [some (n + 32), some (n + 33), some (n + 34), some (n + 35), none]), (12, 32, []), (12, 32, []), (12, 32, []), (12, 32, []), (0, 5, [some (n + 37), some (n + 38), some (n + 39), some (n + 40), none]), (12, 32, []), (12, 32, []), (12, 32, []), (12, 32, []), (2, 3, [none, some (n + 42), some (n + 43)]), (15, 6, [some (n + 44), some (n + 48), some (n + 52), some (n + 56), some (n + 60), some (n + 64)]), (12, 3, []), (1, 3, [some (n + 45), some (n + 46), some (n + 47)]), (12, 2, []), (12, 2, []), (13, 2, []), (1, 3, [some (n + 49), some (n + 50), some (n + 51)]), (12, 2, []), (12, 2, []), (13, 2, []), (1, 3, [some (n + 53), some (n + 54), some (n + 55)]), (12, 2, []), (12, 2, []), (13, 2, []), (1, 3, [some (n + 57), some (n + 58), some (n + 59)]), (12, 2, []), (12, 2, []), (13, 2, []), (1, 3, [some (n + 61), some (n + 62), some (n + 63)]), (12, 2, []), (12, 2, []), (13, 2, []), (1, 3, [some (n + 65), some (n + 66), some (n + 67)]), (12, 2, []), (12, 2, []), (13, 2, []), (2, 3, [none, some (n + 69), some (n + 70)]), (15, 6, [some (n + 71), some (n + 75), some (n + 79), some (n + 83), some (n + 87), some (n + 91)]), (12, 3, []), (1, 3, [some (n + 72), some (n + 73), some (n + 74)]), (12, 4, []), (12, 4, []), (13, 4, []), (1, 3, [some (n + 76), some (n + 77), some (n + 78)]), (12, 4, []), (12, 4, []), (13, 4, []), (1, 3, [some (n + 80), some (n + 81), some (n + 82)]), (12, 4, []), (12, 4, []), (13, 4, []), (1, 3, [some (n + 84), some (n + 85), some (n + 86)]), (12, 4, []), (12, 4, []), (13, 4, []), (1, 3, [some (n + 88), some (n + 89), some (n + 90)]), (12, 4, []), (12, 4, []), (13, 4, []), (1, 3, [some (n + 92), some (n + 93), some (n + 94)]), (12, 4, []), (12, 4, []), (13, 4, []), (2, 3, [none, some (n + 96), some (n + 97)]), (15, 6, [some (n + 98), some (n + 102), some (n + 106), some (n + 110), some (n + 114), some (n + 118)]), (12, 3, []), (1, 3, [some (n + 99), some (n + 100), some (n + 101)]), (12, 8, []), (12, 8, []), (13, 8, []), (1, 3, [some (n + 103), some (n + 104), some (n + 105)]), (12, 8, []), (12, 8, []), (13, 8, []), (1, 3, [some (n + 107), some (n + 108), some (n + 109)]), (12, 8, []), (12, 8, []), (13, 8, []), (1, 3, [some (n + 111), some (n + 112), some (n + 113)]), (12, 8, []), (12, 8, []), (13, 8, []), (1, 3, [some (n + 115), some (n + 116), some (n + 117)]), (12, 8, []), (12, 8, []), (13, 8, []), (1, 3, [some (n + 119), some (n + 120), some (n + 121)]), (12, 8, []), (12, 8, []), (13, 8, []), (2, 3, [none, some (n + 123), some (n + 124)]), (15, 6, [some (n + 125), some (n + 129), some (n + 133), some (n + 137), some (n + 141), some (n + 145)]), (12, 3, []), (1, 3, [some (n + 126), some (n + 127), some (n + 128)]), (12, 16, []), (12, 16, []), (13, 16, []), (1, 3, [some (n + 130), some (n + 131), some (n + 132)]), (12, 16, []), (12, 16, []), (13, 16, []), (1, 3, [some (n + 134), some (n + 135), some (n + 136)]), (12, 16, []), (12, 16, []), (13, 16, []), (1, 3, [some (n + 138), some (n + 139), some (n + 140)]), (12, 16, []), (12, 16, []), (13, 16, []), (1, 3, [some (n + 142), some (n + 143), some (n + 144)]), (12, 16, []), (12, 16, []), (13, 16, []), (1, 3, [some (n + 146), some (n + 147), some (n + 148)]), (12, 16, []), (12, 16, []), (13, 16, []), (5, 2, [some (n + 150), none]), (11, 16, []), (5, 2, [some (n + 152), none]), (11, 16, [])]
set_option maxHeartbeats 1000000 in
theorem slG35 {n : Nat} : sl_ (ZG35 n) = 1724 := by
  have e : ZG35 n = ZG34 n ++ [(5, 2, [some (n + 152), none]), (11, 16, [])] := rfl
  rw [e, sl_app, slG34]; simp [sl_]
set_option maxHeartbeats 1000000 in
theorem lnG35 {n : Nat} : (ZG35 n).length = 153 := by
  have e : ZG35 n = ZG34 n ++ [(5, 2, [some (n + 152), none]), (11, 16, [])] := rfl
  rw [e, List.length_append, lnG34]; rfl
noncomputable def RG18 : List (Nat → Int32) := [(z_), (ua_ (z_) 1 (nI 0)), (z_), (ua_ (ua_ (ua_ (ua_ (z_) 2 (nI 0)) 3 (NONE_)) 4 (nI 0)) 5 (nI 0)), (z_), (z_), (z_), (z_), (ua_ (ua_ (z_) 4 (nI 0)) 5 (nI 0)), (z_), (z_), (z_), (flr (z_) (144) NONE_), (ua_ (ua_ (ua_ (ua_ (z_) 0 (nI 0)) 1 (nI 0)) 2 (nI 0)) 3 (nI 0)), (z_), (z_), (z_), (z_), (z_), (z_), (z_), (ua_ (z_) 4 (nI 8)), (flr (z_) (32) NONE_), (flr (z_) (32) NONE_), (z_), (z_), (ua_ (z_) 4 (nI 8)), (flr (z_) (32) NONE_), (flr (z_) (32) NONE_), (z_), (z_), (ua_ (z_) 4 (nI 8)), (flr (z_) (32) NONE_), (flr (z_) (32) NONE_), (z_), (z_), (ua_ (z_) 4 (nI 8)), (flr (z_) (32) NONE_), (flr (z_) (32) NONE_), (z_), (z_), (ua_ (z_) 0 (nI 2)), (z_), (z_), (z_), (flr (z_) (2) NONE_), (flr (z_) (2) NONE_), (z_), (z_), (flr (z_) (2) NONE_), (flr (z_) (2) NONE_), (z_), (z_), (flr (z_) (2) NONE_), (flr (z_) (2) NONE_), (z_), (z_), (flr (z_) (2) NONE_), (flr (z_) (2) NONE_), (z_), (z_), (flr (z_) (2) NONE_), (flr (z_) (2) NONE_), (z_), (z_), (flr (z_) (2) NONE_), (flr (z_) (2) NONE_), (z_), (ua_ (z_) 0 (nI 4)), (z_), (z_), (z_), (flr (z_) (4) NONE_), (flr (z_) (4) NONE_), (z_), (z_), (flr (z_) (4) NONE_), (flr (z_) (4) NONE_), (z_), (z_), (flr (z_) (4) NONE_), (flr (z_) (4) NONE_), (z_), (z_), (flr (z_) (4) NONE_), (flr (z_) (4) NONE_), (z_), (z_), (flr (z_) (4) NONE_), (flr (z_) (4) NONE_), (z_), (z_), (flr (z_) (4) NONE_), (flr (z_) (4) NONE_), (z_), (ua_ (z_) 0 (nI 8)), (z_), (z_), (z_), (flr (z_) (8) NONE_), (flr (z_) (8) NONE_), (z_), (z_), (flr (z_) (8) NONE_), (flr (z_) (8) NONE_), (z_), (z_), (flr (z_) (8) NONE_), (flr (z_) (8) NONE_), (z_), (z_), (flr (z_) (8) NONE_), (flr (z_) (8) NONE_), (z_), (z_), (flr (z_) (8) NONE_), (flr (z_) (8) NONE_), (z_), (z_), (flr (z_) (8) NONE_), (flr (z_) (8) NONE_), (z_), (ua_ (z_) 0 (nI 16)), (z_), (z_), (z_), (flr (z_) (16) NONE_), (flr (z_) (16) NONE_), (z_), (z_), (flr (z_) (16) NONE_), (flr (z_) (16) NONE_), (z_), (z_), (flr (z_) (16) NONE_), (flr (z_) (16) NONE_), (z_), (z_), (flr (z_) (16) NONE_), (flr (z_) (16) NONE_), (z_), (z_), (flr (z_) (16) NONE_), (flr (z_) (16) NONE_), (z_), (z_), (flr (z_) (16) NONE_), (flr (z_) (16) NONE_), (z_), (ua_ (z_) 1 (-1)), (z_), (ua_ (z_) 1 (-1)), (z_)]
noncomputable def ZG36 (n : Nat) : Ly := [(9, 8, [some (n + 1), some (n + 3), some (n + 6), some (n + 7), some (n + 8), some (n + 13), some (n + 14), some (n + 20)]), (6, 2, [some (n + 2), none]), (11, 64, []), (7, 6, [some (n + 4), some (n + 5), none, none, none, none]), (12, 32, []), (12, 32, []), (14, 4, [some (n + 21), some (n + 26), some (n + 31), some (n + 36)]), (16, 4, [some (n + 41), some (n + 68), some (n + 95), some (n + 122)]), (4, 6, [some (n + 9), some (n + 10), some (n + 11), some (n + 12), none, none]), (12, 16, []), (12, 16, []), (12, 16, []), (12, 144, []), (8, 4, [none, none, none, none]), (3, 5, [some (n + 15), some (n + 16), some (n + 17), some (n + 18), some (n + 19)]), (12, 42, []), (12, 42, []), (12, 42, []), (12, 3, []), (13, 6, []), (17, 2, [some (n + 149), some (n + 151)]), (0, 5, [some (n + 22), some (n + 23), some (n + 24), some (n + 25), none]), (12, 32, []), (12, 32, []), (12, 32, []), (12, 32, []), (0, 5, [some (n + 27), some (n + 28), some (n + 29), some (n + 30), none]), (12, 32, []), (12, 32, []), (12, 32, []), (12, 32, []), (0, 5, [some (n + 32), some (n + 33), some (n + 34), some (n + 35), none]), (12, 32, []), (12, 32, []), (12, 32, []), (12, 32, []), (0, 5, [some (n + 37), some (n + 38), some (n + 39), some (n + 40), none]), (12, 32, []), (12, 32, []), (12, 32, []), (12, 32, []), (2, 3, [none, some (n + 42), some (n + 43)]), (15, 6, [some (n + 44), some (n + 48), some (n + 52), some (n + 56), some (n + 60), some (n + 64)]), (12, 3, []), (1, 3, [some (n + 45), some (n + 46), some (n + 47)]), (12, 2, []), (12, 2, []), (13, 2, []), (1, 3, [some (n + 49), some (n + 50), some (n + 51)]), (12, 2, []), (12, 2, []), (13, 2, []), (1, 3, [some (n + 53), some (n + 54), some (n + 55)]), (12, 2, []), (12, 2, []), (13, 2, []), (1, 3, [some (n + 57), some (n + 58), some (n + 59)]), (12, 2, []), (12, 2, []), (13, 2, []), (1, 3, [some (n + 61), some (n + 62), some (n + 63)]), (12, 2, []), (12, 2, []), (13, 2, []), (1, 3, [some (n + 65), some (n + 66), some (n + 67)]), (12, 2, []), (12, 2, []), (13, 2, []), (2, 3, [none, some (n + 69), some (n + 70)]), (15, 6, [some (n + 71), some (n + 75), some (n + 79), some (n + 83), some (n + 87), some (n + 91)]), (12, 3, []), (1, 3, [some (n + 72), some (n + 73), some (n + 74)]), (12, 4, []), (12, 4, []), (13, 4, []), (1, 3, [some (n + 76), some (n + 77), some (n + 78)]), (12, 4, []), (12, 4, []), (13, 4, []), (1, 3, [some (n + 80), some (n + 81), some (n + 82)]), (12, 4, []), (12, 4, []), (13, 4, []), (1, 3, [some (n + 84), some (n + 85), some (n + 86)]), (12, 4, []), (12, 4, []), (13, 4, []), (1, 3, [some (n + 88), some (n + 89), some (n + 90)]), (12, 4, []), (12, 4, []), (13, 4, []), (1, 3, [some (n + 92), some (n + 93), some (n + 94)]), (12, 4, []), (12, 4, []), (13, 4, []), (2, 3, [none, some (n + 96), some (n + 97)]), (15, 6, [some (n + 98), some (n + 102), some (n + 106), some (n + 110), some (n + 114), some (n + 118)]), (12, 3, []), (1, 3, [some (n + 99), some (n + 100), some (n + 101)]), (12, 8, []), (12, 8, []), (13, 8, []), (1, 3, [some (n + 103), some (n + 104), some (n + 105)]), (12, 8, []), (12, 8, []), (13, 8, []), (1, 3, [some (n + 107), some (n + 108), some (n + 109)]), (12, 8, []), (12, 8, []), (13, 8, []), (1, 3, [some (n + 111), some (n + 112), some (n + 113)]), (12, 8, []), (12, 8, []), (13, 8, []), (1, 3, [some (n + 115), some (n + 116), some (n + 117)]), (12, 8, []), (12, 8, []), (13, 8, []), (1, 3, [some (n + 119), some (n + 120), some (n + 121)]), (12, 8, []), (12, 8, []), (13, 8, []), (2, 3, [none, some (n + 123), some (n + 124)]), (15, 6, [some (n + 125), some (n + 129), some (n + 133), some (n + 137), some (n + 141), some (n + 145)]), (12, 3, []), (1, 3, [some (n + 126), some (n + 127), some (n + 128)]), (12, 16, []), (12, 16, []), (13, 16, []), (1, 3, [some (n + 130), some (n + 131), some (n + 132)]), (12, 16, []), (12, 16, []), (13, 16, []), (1, 3, [some (n + 134), some (n + 135), some (n + 136)]), (12, 16, []), (12, 16, []), (13, 16, []), (1, 3, [some (n + 138), some (n + 139), some (n + 140)]), (12, 16, []), (12, 16, []), (13, 16, []), (1, 3, [some (n + 142), some (n + 143), some (n + 144)]), (12, 16, []), (12, 16, []), (13, 16, []), (1, 3, [some (n + 146), some (n + 147), some (n + 148)]), (12, 16, []), (12, 16, []), (13, 16, []), (5, 2, [some (n + 150), none]), (11, 16, []), (5, 2, [some (n + 152), none]), (11, 16, [])]
set_option maxHeartbeats 1000000 in
theorem slG36 {n : Nat} : sl_ (ZG36 n) = 1724 := by
  have e : ZG36 n = (ZG35 n).set 20 (17, 2, [some (n + 149), some (n + 151)]) := rfl
  rw [e]
  exact (sl_st (e := (17, 2, [some (n + 149), none])) (e2 := (17, 2, [some (n + 149), some (n + 151)])) rfl rfl).trans slG35
set_option maxHeartbeats 1000000 in
theorem lnG36 {n : Nat} : (ZG36 n).length = 153 := by
  have e : ZG36 n = (ZG35 n).set 20 (17, 2, [some (n + 149), some (n + 151)]) := rfl
  rw [e, List.length_set, lnG35]
set_option maxHeartbeats 1000000 in
theorem GS_2 {G : Nat × (Nat → Int32)} {lay : Ly} {m0 : Mm} (hN : lay.length ≤ 700) : ∀ m1, (∀ b, b < lay.length → m1 b = m0 b) → rws m1 lay.length RG18 → Y G M_gh_init (lay.length + 153, sl_ lay + 1724) 140 [some (.ref (lay.length + 0)), some (.int (nI 2))] [] (lay ++ ZG36 lay.length, m1) (pK lay (ZG36 lay.length) m0 lay.length RG18) := by
  intro m1 hfr hrw
  refine Y_iload_n 72 rfl (pc2 := 141) rfl rfl ?_
  refine Y_iconst 73 rfl (pc2 := 142) rfl (v := nI 2) (by decide) ?_
  refine Y_icmp_gen 74 rfl (pc2 := 145) rfl (tgt := 164) (by decide) (by omega) (by omega) (fun _ => ?_) (fun hh => absurd (by omega) hh)
  exact Y_vret 84 rfl rfl ⟨rfl, rfl, hfr, hrw⟩

set_option maxHeartbeats 1000000 in
theorem GS_1 {G : Nat × (Nat → Int32)} {lay : Ly} {m0 : Mm} (hN : lay.length ≤ 700) : ∀ m1, (∀ b, b < lay.length → m1 b = m0 b) → rws m1 lay.length RG17 → Y G M_gh_init (lay.length + 153, sl_ lay + 1724) 140 [some (.ref (lay.length + 0)), some (.int (nI 1))] [] (lay ++ ZG34 lay.length, m1) (pK lay (ZG36 lay.length) m0 lay.length RG18) := by
  intro m1 hfr hrw
  refine Y_iload_n 72 rfl (pc2 := 141) rfl rfl ?_
  refine Y_iconst 73 rfl (pc2 := 142) rfl (v := nI 2) (by decide) ?_
  refine Y_icmp_gen 74 rfl (pc2 := 145) rfl (tgt := 164) (by decide) (by omega) (by omega) (fun hh => absurd hh (by omega)) (fun _ => ?_)
  refine Y_aload_n 75 rfl (pc2 := 146) rfl rfl ?_
  refine Y_getR 76 rfl (pc2 := 149) rfl fl_gh_58 (zz_get rfl) (by decide) rfl rfl (by omega) ?_
  refine Y_iload_n 77 rfl (pc2 := 150) rfl rfl ?_
  refine Y_znew 78 rfl (pc2 := 153) rfl nc_gh_56 (zl := 151) lnG34 (by dsimp only; omega) (by rw [slG34]; dsimp only; omega) (by omega) ?_
  refine Y_dup 79 rfl (pc2 := 154) rfl rfl ?_
  refine Y_mkc (L := lay ++ ZG34 lay.length) (n := lay.length + 151) (C := 1) (Sz := 16) 80 rfl (pc2 := 157) rfl ok_sh_init lk_gh_66 vn_sh_init (as := []) (rest := [.ref _, .int _, .ref _]) (by rw [List.length_append, lnG34]) (by omega) rfl rfl rfl rfl (by dsimp only; omega) (by rw [sl_app, slG34]; dsimp only; omega) (K_sh_init (by rw [List.length_append, lnG34]) (by omega) (by funext k; simp [ur_])) ?_
  intro m2 hf2 hr2
  refine Y_sg (σ2 := (lay ++ ZG35 lay.length, m2)) (by rw [List.append_assoc]; rfl) ?_
  have hE : ∀ b, b < lay.length + 151 → m2 b = m1 b := fun b hb => (hf2 b hb).trans (ur_ne (by omega))
  have hl : RG17.length = 151 := rfl
  have h3 := rws_fr _ _ hrw (fun b h1 h2 => hE b (by rw [hl] at h2; exact h2))
  have h4 := rws_app _ _ _ h3 (by rw [hl]; exact hr2)
  have h5 : RG17 ++ [(ua_ (z_) 1 (-1)), (z_)] = RG18 := rfl
  rw [h5] at h4
  have hfr2 : ∀ b, b < lay.length → m2 b = m0 b := fun b hb => (hE b (by omega)).trans (hfr b hb)
  refine Y_zaast (ja := 20) (jr := 151) 81 rfl (pc2 := 158) rfl rfl (by decide) rfl (by decide) rfl (fun _ => rfl) rfl (by decide) (by decide) (Nat.le_of_ble_eq_true rfl) (by omega) (Z2 := ZG36 lay.length) rfl ?_
  refine Y_iinc 82 rfl (pc2 := 161) rfl rfl (nI_inc _ 1) (ls2 := [some (.ref _), some (.int _)]) rfl ?_
  refine Y_goto 83 rfl (pc2 := 140) (by decide) ?_
  exact GS_2 hN m2 hfr2 h4

set_option maxHeartbeats 1000000 in
theorem GS_0 {G : Nat × (Nat → Int32)} {lay : Ly} {m0 : Mm} (hN : lay.length ≤ 700) : ∀ m1, (∀ b, b < lay.length → m1 b = m0 b) → rws m1 lay.length RG16 → Y G M_gh_init (lay.length + 153, sl_ lay + 1724) 140 [some (.ref (lay.length + 0)), some (.int (nI 0))] [] (lay ++ ZG32 lay.length, m1) (pK lay (ZG36 lay.length) m0 lay.length RG18) := by
  intro m1 hfr hrw
  refine Y_iload_n 72 rfl (pc2 := 141) rfl rfl ?_
  refine Y_iconst 73 rfl (pc2 := 142) rfl (v := nI 2) (by decide) ?_
  refine Y_icmp_gen 74 rfl (pc2 := 145) rfl (tgt := 164) (by decide) (by omega) (by omega) (fun hh => absurd hh (by omega)) (fun _ => ?_)
  refine Y_aload_n 75 rfl (pc2 := 146) rfl rfl ?_
  refine Y_getR 76 rfl (pc2 := 149) rfl fl_gh_58 (zz_get rfl) (by decide) rfl rfl (by omega) ?_
  refine Y_iload_n 77 rfl (pc2 := 150) rfl rfl ?_
  refine Y_znew 78 rfl (pc2 := 153) rfl nc_gh_56 (zl := 149) lnG32 (by dsimp only; omega) (by rw [slG32]; dsimp only; omega) (by omega) ?_
  refine Y_dup 79 rfl (pc2 := 154) rfl rfl ?_
  refine Y_mkc (L := lay ++ ZG32 lay.length) (n := lay.length + 149) (C := 1) (Sz := 16) 80 rfl (pc2 := 157) rfl ok_sh_init lk_gh_66 vn_sh_init (as := []) (rest := [.ref _, .int _, .ref _]) (by rw [List.length_append, lnG32]) (by omega) rfl rfl rfl rfl (by dsimp only; omega) (by rw [sl_app, slG32]; dsimp only; omega) (K_sh_init (by rw [List.length_append, lnG32]) (by omega) (by funext k; simp [ur_])) ?_
  intro m2 hf2 hr2
  refine Y_sg (σ2 := (lay ++ ZG33 lay.length, m2)) (by rw [List.append_assoc]; rfl) ?_
  have hE : ∀ b, b < lay.length + 149 → m2 b = m1 b := fun b hb => (hf2 b hb).trans (ur_ne (by omega))
  have hl : RG16.length = 149 := rfl
  have h3 := rws_fr _ _ hrw (fun b h1 h2 => hE b (by rw [hl] at h2; exact h2))
  have h4 := rws_app _ _ _ h3 (by rw [hl]; exact hr2)
  have h5 : RG16 ++ [(ua_ (z_) 1 (-1)), (z_)] = RG17 := rfl
  rw [h5] at h4
  have hfr2 : ∀ b, b < lay.length → m2 b = m0 b := fun b hb => (hE b (by omega)).trans (hfr b hb)
  refine Y_zaast (ja := 20) (jr := 149) 81 rfl (pc2 := 158) rfl rfl (by decide) rfl (by decide) rfl (fun _ => rfl) rfl (by decide) (by decide) (Nat.le_of_ble_eq_true rfl) (by omega) (Z2 := ZG34 lay.length) rfl ?_
  refine Y_iinc 82 rfl (pc2 := 161) rfl rfl (nI_inc _ 1) (ls2 := [some (.ref _), some (.int _)]) rfl ?_
  refine Y_goto 83 rfl (pc2 := 140) (by decide) ?_
  exact GS_1 hN m2 hfr2 h4

set_option maxHeartbeats 1000000 in
theorem GL_4 {G : Nat × (Nat → Int32)} {lay : Ly} {m0 : Mm} (hN : lay.length ≤ 700) : ∀ m1, (∀ b, b < lay.length → m1 b = m0 b) → rws m1 lay.length RG16 → Y G M_gh_init (lay.length + 153, sl_ lay + 1724) 111 [some (.ref (lay.length + 0)), some (.int (nI 4))] [] (lay ++ ZG32 lay.length, m1) (pK lay (ZG36 lay.length) m0 lay.length RG18) := by
  intro m1 hfr hrw
  refine Y_iload_n 55 rfl (pc2 := 112) rfl rfl ?_
  refine Y_iconst 56 rfl (pc2 := 113) rfl (v := nI 4) (by decide) ?_
  refine Y_icmp_gen 57 rfl (pc2 := 116) rfl (tgt := 138) (by decide) (by omega) (by omega) (fun _ => ?_) (fun hh => absurd (by omega) hh)
  refine Y_iconst 70 rfl (pc2 := 139) rfl (v := nI 0) (by decide) ?_
  refine Y_istore_n 71 rfl (pc2 := 140) rfl (Nat.le_of_ble_eq_true rfl) (ls2 := [some (.ref _), some (.int _)]) rfl ?_
  exact GS_0 hN m1 hfr hrw

set_option maxHeartbeats 1000000 in
theorem GL_3 {G : Nat × (Nat → Int32)} {lay : Ly} {m0 : Mm} (hN : lay.length ≤ 700) : ∀ m1, (∀ b, b < lay.length → m1 b = m0 b) → rws m1 lay.length RG15 → Y G M_gh_init (lay.length + 153, sl_ lay + 1724) 111 [some (.ref (lay.length + 0)), some (.int (nI 3))] [] (lay ++ ZG30 lay.length, m1) (pK lay (ZG36 lay.length) m0 lay.length RG18) := by
  intro m1 hfr hrw
  refine Y_iload_n 55 rfl (pc2 := 112) rfl rfl ?_
  refine Y_iconst 56 rfl (pc2 := 113) rfl (v := nI 4) (by decide) ?_
  refine Y_icmp_gen 57 rfl (pc2 := 116) rfl (tgt := 138) (by decide) (by omega) (by omega) (fun hh => absurd hh (by omega)) (fun _ => ?_)
  refine Y_aload_n 58 rfl (pc2 := 117) rfl rfl ?_
  refine Y_getR 59 rfl (pc2 := 120) rfl fl_gh_31 (zz_get rfl) (by decide) rfl rfl (by omega) ?_
  refine Y_iload_n 60 rfl (pc2 := 121) rfl rfl ?_
  refine Y_znew 61 rfl (pc2 := 124) rfl nc_gh_29 (zl := 122) lnG30 (by dsimp only; omega) (by rw [slG30]; dsimp only; omega) (by omega) ?_
  refine Y_dup 62 rfl (pc2 := 125) rfl rfl ?_
  refine Y_iconst 63 rfl (pc2 := 126) rfl (v := nI 2) (by decide) ?_
  refine Y_iload_n 64 rfl (pc2 := 127) rfl rfl ?_
  refine Y_ishl 65 rfl (pc2 := 128) rfl ?_
  refine Y_top (show nI 2 <<< (nI 3 &&& 31) = nI 16 by decide) ?_
  refine Y_mkc (L := lay ++ ZG30 lay.length) (n := lay.length + 122) (C := 26) (Sz := 6 + 3 + 6 * (3 + (16 + 16 + 16))) 66 rfl (pc2 := 131) rfl ok_le_init lk_gh_63 vn_le_init (as := [.int _]) (rest := [.ref _, .int _, .ref _]) (by rw [List.length_append, lnG30]) (by omega) rfl rfl rfl (by simp [sl_]) (by dsimp only; omega) (by rw [sl_app, slG30]; dsimp only; omega) (K_le_init (s0 := 16) (by decide) (by rw [List.length_append, lnG30]) (by omega) (by funext k; simp [ur_])) ?_
  intro m2 hf2 hr2
  refine Y_sg (σ2 := (lay ++ ZG31 lay.length, m2)) (by rw [List.append_assoc]; rfl) ?_
  have hE : ∀ b, b < lay.length + 122 → m2 b = m1 b := fun b hb => (hf2 b hb).trans (ur_ne (by omega))
  have hl : RG15.length = 122 := rfl
  have h3 := rws_fr _ _ hrw (fun b h1 h2 => hE b (by rw [hl] at h2; exact h2))
  have h4 := rws_app _ _ _ h3 (by rw [hl]; exact hr2)
  have h5 : RG15 ++ [(ua_ (z_) 0 (nI 16)), (z_), (z_), (z_), (flr (z_) (16) NONE_), (flr (z_) (16) NONE_), (z_), (z_), (flr (z_) (16) NONE_), (flr (z_) (16) NONE_), (z_), (z_), (flr (z_) (16) NONE_), (flr (z_) (16) NONE_), (z_), (z_), (flr (z_) (16) NONE_), (flr (z_) (16) NONE_), (z_), (z_), (flr (z_) (16) NONE_), (flr (z_) (16) NONE_), (z_), (z_), (flr (z_) (16) NONE_), (flr (z_) (16) NONE_), (z_)] = RG16 := rfl
  rw [h5] at h4
  have hfr2 : ∀ b, b < lay.length → m2 b = m0 b := fun b hb => (hE b (by omega)).trans (hfr b hb)
  refine Y_zaast (ja := 7) (jr := 122) 67 rfl (pc2 := 132) rfl rfl (by decide) rfl (by decide) rfl (fun _ => rfl) rfl (by decide) (by decide) (Nat.le_of_ble_eq_true rfl) (by omega) (Z2 := ZG32 lay.length) rfl ?_
  refine Y_iinc 68 rfl (pc2 := 135) rfl rfl (nI_inc _ 1) (ls2 := [some (.ref _), some (.int _)]) rfl ?_
  refine Y_goto 69 rfl (pc2 := 111) (by decide) ?_
  exact GL_4 hN m2 hfr2 h4

set_option maxHeartbeats 1000000 in
theorem GL_2 {G : Nat × (Nat → Int32)} {lay : Ly} {m0 : Mm} (hN : lay.length ≤ 700) : ∀ m1, (∀ b, b < lay.length → m1 b = m0 b) → rws m1 lay.length RG14 → Y G M_gh_init (lay.length + 153, sl_ lay + 1724) 111 [some (.ref (lay.length + 0)), some (.int (nI 2))] [] (lay ++ ZG28 lay.length, m1) (pK lay (ZG36 lay.length) m0 lay.length RG18) := by
  intro m1 hfr hrw
  refine Y_iload_n 55 rfl (pc2 := 112) rfl rfl ?_
  refine Y_iconst 56 rfl (pc2 := 113) rfl (v := nI 4) (by decide) ?_
  refine Y_icmp_gen 57 rfl (pc2 := 116) rfl (tgt := 138) (by decide) (by omega) (by omega) (fun hh => absurd hh (by omega)) (fun _ => ?_)
  refine Y_aload_n 58 rfl (pc2 := 117) rfl rfl ?_
  refine Y_getR 59 rfl (pc2 := 120) rfl fl_gh_31 (zz_get rfl) (by decide) rfl rfl (by omega) ?_
  refine Y_iload_n 60 rfl (pc2 := 121) rfl rfl ?_
  refine Y_znew 61 rfl (pc2 := 124) rfl nc_gh_29 (zl := 95) lnG28 (by dsimp only; omega) (by rw [slG28]; dsimp only; omega) (by omega) ?_
  refine Y_dup 62 rfl (pc2 := 125) rfl rfl ?_
  refine Y_iconst 63 rfl (pc2 := 126) rfl (v := nI 2) (by decide) ?_
  refine Y_iload_n 64 rfl (pc2 := 127) rfl rfl ?_
  refine Y_ishl 65 rfl (pc2 := 128) rfl ?_
  refine Y_top (show nI 2 <<< (nI 2 &&& 31) = nI 8 by decide) ?_
  refine Y_mkc (L := lay ++ ZG28 lay.length) (n := lay.length + 95) (C := 26) (Sz := 6 + 3 + 6 * (3 + (8 + 8 + 8))) 66 rfl (pc2 := 131) rfl ok_le_init lk_gh_63 vn_le_init (as := [.int _]) (rest := [.ref _, .int _, .ref _]) (by rw [List.length_append, lnG28]) (by omega) rfl rfl rfl (by simp [sl_]) (by dsimp only; omega) (by rw [sl_app, slG28]; dsimp only; omega) (K_le_init (s0 := 8) (by decide) (by rw [List.length_append, lnG28]) (by omega) (by funext k; simp [ur_])) ?_
  intro m2 hf2 hr2
  refine Y_sg (σ2 := (lay ++ ZG29 lay.length, m2)) (by rw [List.append_assoc]; rfl) ?_
  have hE : ∀ b, b < lay.length + 95 → m2 b = m1 b := fun b hb => (hf2 b hb).trans (ur_ne (by omega))
  have hl : RG14.length = 95 := rfl
  have h3 := rws_fr _ _ hrw (fun b h1 h2 => hE b (by rw [hl] at h2; exact h2))
  have h4 := rws_app _ _ _ h3 (by rw [hl]; exact hr2)
  have h5 : RG14 ++ [(ua_ (z_) 0 (nI 8)), (z_), (z_), (z_), (flr (z_) (8) NONE_), (flr (z_) (8) NONE_), (z_), (z_), (flr (z_) (8) NONE_), (flr (z_) (8) NONE_), (z_), (z_), (flr (z_) (8) NONE_), (flr (z_) (8) NONE_), (z_), (z_), (flr (z_) (8) NONE_), (flr (z_) (8) NONE_), (z_), (z_), (flr (z_) (8) NONE_), (flr (z_) (8) NONE_), (z_), (z_), (flr (z_) (8) NONE_), (flr (z_) (8) NONE_), (z_)] = RG15 := rfl
  rw [h5] at h4
  have hfr2 : ∀ b, b < lay.length → m2 b = m0 b := fun b hb => (hE b (by omega)).trans (hfr b hb)
  refine Y_zaast (ja := 7) (jr := 95) 67 rfl (pc2 := 132) rfl rfl (by decide) rfl (by decide) rfl (fun _ => rfl) rfl (by decide) (by decide) (Nat.le_of_ble_eq_true rfl) (by omega) (Z2 := ZG30 lay.length) rfl ?_
  refine Y_iinc 68 rfl (pc2 := 135) rfl rfl (nI_inc _ 1) (ls2 := [some (.ref _), some (.int _)]) rfl ?_
  refine Y_goto 69 rfl (pc2 := 111) (by decide) ?_
  exact GL_3 hN m2 hfr2 h4

set_option maxHeartbeats 1000000 in
theorem GL_1 {G : Nat × (Nat → Int32)} {lay : Ly} {m0 : Mm} (hN : lay.length ≤ 700) : ∀ m1, (∀ b, b < lay.length → m1 b = m0 b) → rws m1 lay.length RG13 → Y G M_gh_init (lay.length + 153, sl_ lay + 1724) 111 [some (.ref (lay.length + 0)), some (.int (nI 1))] [] (lay ++ ZG26 lay.length, m1) (pK lay (ZG36 lay.length) m0 lay.length RG18) := by
  intro m1 hfr hrw
  refine Y_iload_n 55 rfl (pc2 := 112) rfl rfl ?_
  refine Y_iconst 56 rfl (pc2 := 113) rfl (v := nI 4) (by decide) ?_
  refine Y_icmp_gen 57 rfl (pc2 := 116) rfl (tgt := 138) (by decide) (by omega) (by omega) (fun hh => absurd hh (by omega)) (fun _ => ?_)
  refine Y_aload_n 58 rfl (pc2 := 117) rfl rfl ?_
  refine Y_getR 59 rfl (pc2 := 120) rfl fl_gh_31 (zz_get rfl) (by decide) rfl rfl (by omega) ?_
  refine Y_iload_n 60 rfl (pc2 := 121) rfl rfl ?_
  refine Y_znew 61 rfl (pc2 := 124) rfl nc_gh_29 (zl := 68) lnG26 (by dsimp only; omega) (by rw [slG26]; dsimp only; omega) (by omega) ?_
  refine Y_dup 62 rfl (pc2 := 125) rfl rfl ?_
  refine Y_iconst 63 rfl (pc2 := 126) rfl (v := nI 2) (by decide) ?_
  refine Y_iload_n 64 rfl (pc2 := 127) rfl rfl ?_
  refine Y_ishl 65 rfl (pc2 := 128) rfl ?_
  refine Y_top (show nI 2 <<< (nI 1 &&& 31) = nI 4 by decide) ?_
  refine Y_mkc (L := lay ++ ZG26 lay.length) (n := lay.length + 68) (C := 26) (Sz := 6 + 3 + 6 * (3 + (4 + 4 + 4))) 66 rfl (pc2 := 131) rfl ok_le_init lk_gh_63 vn_le_init (as := [.int _]) (rest := [.ref _, .int _, .ref _]) (by rw [List.length_append, lnG26]) (by omega) rfl rfl rfl (by simp [sl_]) (by dsimp only; omega) (by rw [sl_app, slG26]; dsimp only; omega) (K_le_init (s0 := 4) (by decide) (by rw [List.length_append, lnG26]) (by omega) (by funext k; simp [ur_])) ?_
  intro m2 hf2 hr2
  refine Y_sg (σ2 := (lay ++ ZG27 lay.length, m2)) (by rw [List.append_assoc]; rfl) ?_
  have hE : ∀ b, b < lay.length + 68 → m2 b = m1 b := fun b hb => (hf2 b hb).trans (ur_ne (by omega))
  have hl : RG13.length = 68 := rfl
  have h3 := rws_fr _ _ hrw (fun b h1 h2 => hE b (by rw [hl] at h2; exact h2))
  have h4 := rws_app _ _ _ h3 (by rw [hl]; exact hr2)
  have h5 : RG13 ++ [(ua_ (z_) 0 (nI 4)), (z_), (z_), (z_), (flr (z_) (4) NONE_), (flr (z_) (4) NONE_), (z_), (z_), (flr (z_) (4) NONE_), (flr (z_) (4) NONE_), (z_), (z_), (flr (z_) (4) NONE_), (flr (z_) (4) NONE_), (z_), (z_), (flr (z_) (4) NONE_), (flr (z_) (4) NONE_), (z_), (z_), (flr (z_) (4) NONE_), (flr (z_) (4) NONE_), (z_), (z_), (flr (z_) (4) NONE_), (flr (z_) (4) NONE_), (z_)] = RG14 := rfl
  rw [h5] at h4
  have hfr2 : ∀ b, b < lay.length → m2 b = m0 b := fun b hb => (hE b (by omega)).trans (hfr b hb)
  refine Y_zaast (ja := 7) (jr := 68) 67 rfl (pc2 := 132) rfl rfl (by decide) rfl (by decide) rfl (fun _ => rfl) rfl (by decide) (by decide) (Nat.le_of_ble_eq_true rfl) (by omega) (Z2 := ZG28 lay.length) rfl ?_
  refine Y_iinc 68 rfl (pc2 := 135) rfl rfl (nI_inc _ 1) (ls2 := [some (.ref _), some (.int _)]) rfl ?_
  refine Y_goto 69 rfl (pc2 := 111) (by decide) ?_
  exact GL_2 hN m2 hfr2 h4

set_option maxHeartbeats 1000000 in
theorem GL_0 {G : Nat × (Nat → Int32)} {lay : Ly} {m0 : Mm} (hN : lay.length ≤ 700) : ∀ m1, (∀ b, b < lay.length → m1 b = m0 b) → rws m1 lay.length RG12 → Y G M_gh_init (lay.length + 153, sl_ lay + 1724) 111 [some (.ref (lay.length + 0)), some (.int (nI 0))] [] (lay ++ ZG24 lay.length, m1) (pK lay (ZG36 lay.length) m0 lay.length RG18) := by
  intro m1 hfr hrw
  refine Y_iload_n 55 rfl (pc2 := 112) rfl rfl ?_
  refine Y_iconst 56 rfl (pc2 := 113) rfl (v := nI 4) (by decide) ?_
  refine Y_icmp_gen 57 rfl (pc2 := 116) rfl (tgt := 138) (by decide) (by omega) (by omega) (fun hh => absurd hh (by omega)) (fun _ => ?_)
  refine Y_aload_n 58 rfl (pc2 := 117) rfl rfl ?_
  refine Y_getR 59 rfl (pc2 := 120) rfl fl_gh_31 (zz_get rfl) (by decide) rfl rfl (by omega) ?_
  refine Y_iload_n 60 rfl (pc2 := 121) rfl rfl ?_
  refine Y_znew 61 rfl (pc2 := 124) rfl nc_gh_29 (zl := 41) lnG24 (by dsimp only; omega) (by rw [slG24]; dsimp only; omega) (by omega) ?_
  refine Y_dup 62 rfl (pc2 := 125) rfl rfl ?_
  refine Y_iconst 63 rfl (pc2 := 126) rfl (v := nI 2) (by decide) ?_
  refine Y_iload_n 64 rfl (pc2 := 127) rfl rfl ?_
  refine Y_ishl 65 rfl (pc2 := 128) rfl ?_
  refine Y_top (show nI 2 <<< (nI 0 &&& 31) = nI 2 by decide) ?_
  refine Y_mkc (L := lay ++ ZG24 lay.length) (n := lay.length + 41) (C := 26) (Sz := 6 + 3 + 6 * (3 + (2 + 2 + 2))) 66 rfl (pc2 := 131) rfl ok_le_init lk_gh_63 vn_le_init (as := [.int _]) (rest := [.ref _, .int _, .ref _]) (by rw [List.length_append, lnG24]) (by omega) rfl rfl rfl (by simp [sl_]) (by dsimp only; omega) (by rw [sl_app, slG24]; dsimp only; omega) (K_le_init (s0 := 2) (by decide) (by rw [List.length_append, lnG24]) (by omega) (by funext k; simp [ur_])) ?_
  intro m2 hf2 hr2
  refine Y_sg (σ2 := (lay ++ ZG25 lay.length, m2)) (by rw [List.append_assoc]; rfl) ?_
  have hE : ∀ b, b < lay.length + 41 → m2 b = m1 b := fun b hb => (hf2 b hb).trans (ur_ne (by omega))
  have hl : RG12.length = 41 := rfl
  have h3 := rws_fr _ _ hrw (fun b h1 h2 => hE b (by rw [hl] at h2; exact h2))
  have h4 := rws_app _ _ _ h3 (by rw [hl]; exact hr2)
  have h5 : RG12 ++ [(ua_ (z_) 0 (nI 2)), (z_), (z_), (z_), (flr (z_) (2) NONE_), (flr (z_) (2) NONE_), (z_), (z_), (flr (z_) (2) NONE_), (flr (z_) (2) NONE_), (z_), (z_), (flr (z_) (2) NONE_), (flr (z_) (2) NONE_), (z_), (z_), (flr (z_) (2) NONE_), (flr (z_) (2) NONE_), (z_), (z_), (flr (z_) (2) NONE_), (flr (z_) (2) NONE_), (z_), (z_), (flr (z_) (2) NONE_), (flr (z_) (2) NONE_), (z_)] = RG13 := rfl
  rw [h5] at h4
  have hfr2 : ∀ b, b < lay.length → m2 b = m0 b := fun b hb => (hE b (by omega)).trans (hfr b hb)
  refine Y_zaast (ja := 7) (jr := 41) 67 rfl (pc2 := 132) rfl rfl (by decide) rfl (by decide) rfl (fun _ => rfl) rfl (by decide) (by decide) (Nat.le_of_ble_eq_true rfl) (by omega) (Z2 := ZG26 lay.length) rfl ?_
  refine Y_iinc 68 rfl (pc2 := 135) rfl rfl (nI_inc _ 1) (ls2 := [some (.ref _), some (.int _)]) rfl ?_
  refine Y_goto 69 rfl (pc2 := 111) (by decide) ?_
  exact GL_1 hN m2 hfr2 h4

set_option maxHeartbeats 1000000 in
theorem GC_4 {G : Nat × (Nat → Int32)} {lay : Ly} {m0 : Mm} (hN : lay.length ≤ 700) : ∀ m1, (∀ b, b < lay.length → m1 b = m0 b) → rws m1 lay.length RG12 → Y G M_gh_init (lay.length + 153, sl_ lay + 1724) 85 [some (.ref (lay.length + 0)), some (.int (nI 4))] [] (lay ++ ZG24 lay.length, m1) (pK lay (ZG36 lay.length) m0 lay.length RG18) := by
  intro m1 hfr hrw
  refine Y_iload_n 41 rfl (pc2 := 86) rfl rfl ?_
  refine Y_iconst 42 rfl (pc2 := 87) rfl (v := nI 4) (by decide) ?_
  refine Y_icmp_gen 43 rfl (pc2 := 90) rfl (tgt := 109) (by decide) (by omega) (by omega) (fun _ => ?_) (fun hh => absurd (by omega) hh)
  refine Y_iconst 53 rfl (pc2 := 110) rfl (v := nI 0) (by decide) ?_
  refine Y_istore_n 54 rfl (pc2 := 111) rfl (Nat.le_of_ble_eq_true rfl) (ls2 := [some (.ref _), some (.int _)]) rfl ?_
  exact GL_0 hN m1 hfr hrw

set_option maxHeartbeats 1000000 in
theorem GC_3 {G : Nat × (Nat → Int32)} {lay : Ly} {m0 : Mm} (hN : lay.length ≤ 700) : ∀ m1, (∀ b, b < lay.length → m1 b = m0 b) → rws m1 lay.length RG11 → Y G M_gh_init (lay.length + 153, sl_ lay + 1724) 85 [some (.ref (lay.length + 0)), some (.int (nI 3))] [] (lay ++ ZG22 lay.length, m1) (pK lay (ZG36 lay.length) m0 lay.length RG18) := by
  intro m1 hfr hrw
  refine Y_iload_n 41 rfl (pc2 := 86) rfl rfl ?_
  refine Y_iconst 42 rfl (pc2 := 87) rfl (v := nI 4) (by decide) ?_
  refine Y_icmp_gen 43 rfl (pc2 := 90) rfl (tgt := 109) (by decide) (by omega) (by omega) (fun hh => absurd hh (by omega)) (fun _ => ?_)
  refine Y_aload_n 44 rfl (pc2 := 91) rfl rfl ?_
  refine Y_getR 45 rfl (pc2 := 94) rfl fl_gh_25 (zz_get rfl) (by decide) rfl rfl (by omega) ?_
  refine Y_iload_n 46 rfl (pc2 := 95) rfl rfl ?_
  refine Y_znew 47 rfl (pc2 := 98) rfl nc_gh_23 (zl := 36) lnG22 (by dsimp only; omega) (by rw [slG22]; dsimp only; omega) (by omega) ?_
  refine Y_dup 48 rfl (pc2 := 99) rfl rfl ?_
  refine Y_mkc (L := lay ++ ZG22 lay.length) (n := lay.length + 36) (C := 4) (Sz := 32 + 32 + 32 + 32) 49 rfl (pc2 := 102) rfl ok_ci_init lk_gh_62 vn_ci_init (as := []) (rest := [.ref _, .int _, .ref _]) (by rw [List.length_append, lnG22]) (by omega) rfl rfl rfl rfl (by dsimp only; omega) (by rw [sl_app, slG22]; dsimp only; omega) (K_ci_init (by rw [List.length_append, lnG22]) (by omega) (by funext k; simp [ur_])) ?_
  intro m2 hf2 hr2
  refine Y_sg (σ2 := (lay ++ ZG23 lay.length, m2)) (by rw [List.append_assoc]; rfl) ?_
  have hE : ∀ b, b < lay.length + 36 → m2 b = m1 b := fun b hb => (hf2 b hb).trans (ur_ne (by omega))
  have hl : RG11.length = 36 := rfl
  have h3 := rws_fr _ _ hrw (fun b h1 h2 => hE b (by rw [hl] at h2; exact h2))
  have h4 := rws_app _ _ _ h3 (by rw [hl]; exact hr2)
  have h5 : RG11 ++ [(ua_ (z_) 4 (nI 8)), (flr (z_) (32) NONE_), (flr (z_) (32) NONE_), (z_), (z_)] = RG12 := rfl
  rw [h5] at h4
  have hfr2 : ∀ b, b < lay.length → m2 b = m0 b := fun b hb => (hE b (by omega)).trans (hfr b hb)
  refine Y_zaast (ja := 6) (jr := 36) 50 rfl (pc2 := 103) rfl rfl (by decide) rfl (by decide) rfl (fun _ => rfl) rfl (by decide) (by decide) (Nat.le_of_ble_eq_true rfl) (by omega) (Z2 := ZG24 lay.length) rfl ?_
  refine Y_iinc 51 rfl (pc2 := 106) rfl rfl (nI_inc _ 1) (ls2 := [some (.ref _), some (.int _)]) rfl ?_
  refine Y_goto 52 rfl (pc2 := 85) (by decide) ?_
  exact GC_4 hN m2 hfr2 h4

set_option maxHeartbeats 1000000 in
theorem GC_2 {G : Nat × (Nat → Int32)} {lay : Ly} {m0 : Mm} (hN : lay.length ≤ 700) : ∀ m1, (∀ b, b < lay.length → m1 b = m0 b) → rws m1 lay.length RG10 → Y G M_gh_init (lay.length + 153, sl_ lay + 1724) 85 [some (.ref (lay.length + 0)), some (.int (nI 2))] [] (lay ++ ZG20 lay.length, m1) (pK lay (ZG36 lay.length) m0 lay.length RG18) := by
  intro m1 hfr hrw
  refine Y_iload_n 41 rfl (pc2 := 86) rfl rfl ?_
  refine Y_iconst 42 rfl (pc2 := 87) rfl (v := nI 4) (by decide) ?_
  refine Y_icmp_gen 43 rfl (pc2 := 90) rfl (tgt := 109) (by decide) (by omega) (by omega) (fun hh => absurd hh (by omega)) (fun _ => ?_)
  refine Y_aload_n 44 rfl (pc2 := 91) rfl rfl ?_
  refine Y_getR 45 rfl (pc2 := 94) rfl fl_gh_25 (zz_get rfl) (by decide) rfl rfl (by omega) ?_
  refine Y_iload_n 46 rfl (pc2 := 95) rfl rfl ?_
  refine Y_znew 47 rfl (pc2 := 98) rfl nc_gh_23 (zl := 31) lnG20 (by dsimp only; omega) (by rw [slG20]; dsimp only; omega) (by omega) ?_
  refine Y_dup 48 rfl (pc2 := 99) rfl rfl ?_
  refine Y_mkc (L := lay ++ ZG20 lay.length) (n := lay.length + 31) (C := 4) (Sz := 32 + 32 + 32 + 32) 49 rfl (pc2 := 102) rfl ok_ci_init lk_gh_62 vn_ci_init (as := []) (rest := [.ref _, .int _, .ref _]) (by rw [List.length_append, lnG20]) (by omega) rfl rfl rfl rfl (by dsimp only; omega) (by rw [sl_app, slG20]; dsimp only; omega) (K_ci_init (by rw [List.length_append, lnG20]) (by omega) (by funext k; simp [ur_])) ?_
  intro m2 hf2 hr2
  refine Y_sg (σ2 := (lay ++ ZG21 lay.length, m2)) (by rw [List.append_assoc]; rfl) ?_
  have hE : ∀ b, b < lay.length + 31 → m2 b = m1 b := fun b hb => (hf2 b hb).trans (ur_ne (by omega))
  have hl : RG10.length = 31 := rfl
  have h3 := rws_fr _ _ hrw (fun b h1 h2 => hE b (by rw [hl] at h2; exact h2))
  have h4 := rws_app _ _ _ h3 (by rw [hl]; exact hr2)
  have h5 : RG10 ++ [(ua_ (z_) 4 (nI 8)), (flr (z_) (32) NONE_), (flr (z_) (32) NONE_), (z_), (z_)] = RG11 := rfl
  rw [h5] at h4
  have hfr2 : ∀ b, b < lay.length → m2 b = m0 b := fun b hb => (hE b (by omega)).trans (hfr b hb)
  refine Y_zaast (ja := 6) (jr := 31) 50 rfl (pc2 := 103) rfl rfl (by decide) rfl (by decide) rfl (fun _ => rfl) rfl (by decide) (by decide) (Nat.le_of_ble_eq_true rfl) (by omega) (Z2 := ZG22 lay.length) rfl ?_
  refine Y_iinc 51 rfl (pc2 := 106) rfl rfl (nI_inc _ 1) (ls2 := [some (.ref _), some (.int _)]) rfl ?_
  refine Y_goto 52 rfl (pc2 := 85) (by decide) ?_
  exact GC_3 hN m2 hfr2 h4

set_option maxHeartbeats 1000000 in
theorem GC_1 {G : Nat × (Nat → Int32)} {lay : Ly} {m0 : Mm} (hN : lay.length ≤ 700) : ∀ m1, (∀ b, b < lay.length → m1 b = m0 b) → rws m1 lay.length RG9 → Y G M_gh_init (lay.length + 153, sl_ lay + 1724) 85 [some (.ref (lay.length + 0)), some (.int (nI 1))] [] (lay ++ ZG18 lay.length, m1) (pK lay (ZG36 lay.length) m0 lay.length RG18) := by
  intro m1 hfr hrw
  refine Y_iload_n 41 rfl (pc2 := 86) rfl rfl ?_
  refine Y_iconst 42 rfl (pc2 := 87) rfl (v := nI 4) (by decide) ?_
  refine Y_icmp_gen 43 rfl (pc2 := 90) rfl (tgt := 109) (by decide) (by omega) (by omega) (fun hh => absurd hh (by omega)) (fun _ => ?_)
  refine Y_aload_n 44 rfl (pc2 := 91) rfl rfl ?_
  refine Y_getR 45 rfl (pc2 := 94) rfl fl_gh_25 (zz_get rfl) (by decide) rfl rfl (by omega) ?_
  refine Y_iload_n 46 rfl (pc2 := 95) rfl rfl ?_
  refine Y_znew 47 rfl (pc2 := 98) rfl nc_gh_23 (zl := 26) lnG18 (by dsimp only; omega) (by rw [slG18]; dsimp only; omega) (by omega) ?_
  refine Y_dup 48 rfl (pc2 := 99) rfl rfl ?_
  refine Y_mkc (L := lay ++ ZG18 lay.length) (n := lay.length + 26) (C := 4) (Sz := 32 + 32 + 32 + 32) 49 rfl (pc2 := 102) rfl ok_ci_init lk_gh_62 vn_ci_init (as := []) (rest := [.ref _, .int _, .ref _]) (by rw [List.length_append, lnG18]) (by omega) rfl rfl rfl rfl (by dsimp only; omega) (by rw [sl_app, slG18]; dsimp only; omega) (K_ci_init (by rw [List.length_append, lnG18]) (by omega) (by funext k; simp [ur_])) ?_
  intro m2 hf2 hr2
  refine Y_sg (σ2 := (lay ++ ZG19 lay.length, m2)) (by rw [List.append_assoc]; rfl) ?_
  have hE : ∀ b, b < lay.length + 26 → m2 b = m1 b := fun b hb => (hf2 b hb).trans (ur_ne (by omega))
  have hl : RG9.length = 26 := rfl
  have h3 := rws_fr _ _ hrw (fun b h1 h2 => hE b (by rw [hl] at h2; exact h2))
  have h4 := rws_app _ _ _ h3 (by rw [hl]; exact hr2)
  have h5 : RG9 ++ [(ua_ (z_) 4 (nI 8)), (flr (z_) (32) NONE_), (flr (z_) (32) NONE_), (z_), (z_)] = RG10 := rfl
  rw [h5] at h4
  have hfr2 : ∀ b, b < lay.length → m2 b = m0 b := fun b hb => (hE b (by omega)).trans (hfr b hb)
  refine Y_zaast (ja := 6) (jr := 26) 50 rfl (pc2 := 103) rfl rfl (by decide) rfl (by decide) rfl (fun _ => rfl) rfl (by decide) (by decide) (Nat.le_of_ble_eq_true rfl) (by omega) (Z2 := ZG20 lay.length) rfl ?_
  refine Y_iinc 51 rfl (pc2 := 106) rfl rfl (nI_inc _ 1) (ls2 := [some (.ref _), some (.int _)]) rfl ?_
  refine Y_goto 52 rfl (pc2 := 85) (by decide) ?_
  exact GC_2 hN m2 hfr2 h4

set_option maxHeartbeats 1000000 in
theorem GC_0 {G : Nat × (Nat → Int32)} {lay : Ly} {m0 : Mm} (hN : lay.length ≤ 700) : ∀ m1, (∀ b, b < lay.length → m1 b = m0 b) → rws m1 lay.length RG8 → Y G M_gh_init (lay.length + 153, sl_ lay + 1724) 85 [some (.ref (lay.length + 0)), some (.int (nI 0))] [] (lay ++ ZG16 lay.length, m1) (pK lay (ZG36 lay.length) m0 lay.length RG18) := by
  intro m1 hfr hrw
  refine Y_iload_n 41 rfl (pc2 := 86) rfl rfl ?_
  refine Y_iconst 42 rfl (pc2 := 87) rfl (v := nI 4) (by decide) ?_
  refine Y_icmp_gen 43 rfl (pc2 := 90) rfl (tgt := 109) (by decide) (by omega) (by omega) (fun hh => absurd hh (by omega)) (fun _ => ?_)
  refine Y_aload_n 44 rfl (pc2 := 91) rfl rfl ?_
  refine Y_getR 45 rfl (pc2 := 94) rfl fl_gh_25 (zz_get rfl) (by decide) rfl rfl (by omega) ?_
  refine Y_iload_n 46 rfl (pc2 := 95) rfl rfl ?_
  refine Y_znew 47 rfl (pc2 := 98) rfl nc_gh_23 (zl := 21) lnG16 (by dsimp only; omega) (by rw [slG16]; dsimp only; omega) (by omega) ?_
  refine Y_dup 48 rfl (pc2 := 99) rfl rfl ?_
  refine Y_mkc (L := lay ++ ZG16 lay.length) (n := lay.length + 21) (C := 4) (Sz := 32 + 32 + 32 + 32) 49 rfl (pc2 := 102) rfl ok_ci_init lk_gh_62 vn_ci_init (as := []) (rest := [.ref _, .int _, .ref _]) (by rw [List.length_append, lnG16]) (by omega) rfl rfl rfl rfl (by dsimp only; omega) (by rw [sl_app, slG16]; dsimp only; omega) (K_ci_init (by rw [List.length_append, lnG16]) (by omega) (by funext k; simp [ur_])) ?_
  intro m2 hf2 hr2
  refine Y_sg (σ2 := (lay ++ ZG17 lay.length, m2)) (by rw [List.append_assoc]; rfl) ?_
  have hE : ∀ b, b < lay.length + 21 → m2 b = m1 b := fun b hb => (hf2 b hb).trans (ur_ne (by omega))
  have hl : RG8.length = 21 := rfl
  have h3 := rws_fr _ _ hrw (fun b h1 h2 => hE b (by rw [hl] at h2; exact h2))
  have h4 := rws_app _ _ _ h3 (by rw [hl]; exact hr2)
  have h5 : RG8 ++ [(ua_ (z_) 4 (nI 8)), (flr (z_) (32) NONE_), (flr (z_) (32) NONE_), (z_), (z_)] = RG9 := rfl
  rw [h5] at h4
  have hfr2 : ∀ b, b < lay.length → m2 b = m0 b := fun b hb => (hE b (by omega)).trans (hfr b hb)
  refine Y_zaast (ja := 6) (jr := 21) 50 rfl (pc2 := 103) rfl rfl (by decide) rfl (by decide) rfl (fun _ => rfl) rfl (by decide) (by decide) (Nat.le_of_ble_eq_true rfl) (by omega) (Z2 := ZG18 lay.length) rfl ?_
  refine Y_iinc 51 rfl (pc2 := 106) rfl rfl (nI_inc _ 1) (ls2 := [some (.ref _), some (.int _)]) rfl ?_
  refine Y_goto 52 rfl (pc2 := 85) (by decide) ?_
  exact GC_1 hN m2 hfr2 h4

set_option maxHeartbeats 1000000 in
theorem GF_7 {G : Nat × (Nat → Int32)} {lay : Ly} {m0 : Mm} (hN : lay.length ≤ 700) : ∀ m1, (∀ b, b < lay.length → m1 b = m0 b) → rws m1 lay.length RG7 → ∀ (u : Option Value), Y G M_gh_init (lay.length + 153, sl_ lay + 1724) 75 [some (.ref (lay.length + 0)), u] [] (lay ++ ZG14 lay.length, m1) (pK lay (ZG36 lay.length) m0 lay.length RG18) := by
  intro m1 hfr hrw u
  refine Y_aload_n 35 rfl (pc2 := 76) rfl rfl ?_
  refine Y_iconst 36 rfl (pc2 := 77) rfl (v := nI 2) (by decide) ?_
  refine Y_znewq_Sheet 37 rfl (pc2 := 80) rfl cl_gh_56 rfl (by omega) (zl := 20) lnG14 (by dsimp only; omega) (by rw [slG14]; dsimp only; omega) (by omega) (Z2 := ZG15 lay.length) rfl ?_
  refine Y_zputR 38 rfl (pc2 := 83) rfl fl_gh_58 rfl (by decide) (Nat.le_of_ble_eq_true rfl) (by omega) (Or.inr ⟨_, rfl⟩) ⟨_, _, _, rfl, rfl, rfl⟩ rfl rfl (Z2 := ZG16 lay.length) rfl ?_
  have hl : RG7.length = 20 := rfl
  have h3 : rws (ur_ m1 (lay.length + 20) z_) lay.length RG7 := rws_fr _ _ hrw (fun b h1 h2 => ur_ne (by rw [hl] at h2; omega))
  have h4 := rws_app RG7 [(z_)] _ h3 ⟨by rw [hl]; funext k; exact ur_same, trivial⟩
  have h5 : RG7 ++ [(z_)] = RG8 := rfl
  rw [h5] at h4
  refine Y_iconst 39 rfl (pc2 := 84) rfl (v := nI 0) (by decide) ?_
  refine Y_istore_n 40 rfl (pc2 := 85) rfl (Nat.le_of_ble_eq_true rfl) (ls2 := [some (.ref _), some (.int _)]) rfl ?_
  exact GC_0 hN _ (fun b hb => (ur_ne (by omega)).trans (hfr b hb)) h4

set_option maxHeartbeats 1000000 in
theorem GF_6 {G : Nat × (Nat → Int32)} {lay : Ly} {m0 : Mm} (hN : lay.length ≤ 700) : ∀ m1, (∀ b, b < lay.length → m1 b = m0 b) → rws m1 lay.length RG6 → ∀ (u : Option Value), Y G M_gh_init (lay.length + 153, sl_ lay + 1724) 64 [some (.ref (lay.length + 0)), u] [] (lay ++ ZG12 lay.length, m1) (pK lay (ZG36 lay.length) m0 lay.length RG18) := by
  intro m1 hfr hrw u
  refine Y_aload_n 30 rfl (pc2 := 65) rfl rfl ?_
  refine Y_znew 31 rfl (pc2 := 68) rfl nc_gh_49 (zl := 14) lnG12 (by dsimp only; omega) (by rw [slG12]; dsimp only; omega) (by omega) ?_
  refine Y_dup 32 rfl (pc2 := 69) rfl rfl ?_
  refine Y_mkc (L := lay ++ ZG12 lay.length) (n := lay.length + 14) (C := 5) (Sz := 42 + 42 + 42 + 3 + 6) 33 rfl (pc2 := 72) rfl ok_li_init lk_gh_51 vn_li_init (as := []) (rest := [.ref _, .ref _]) (by rw [List.length_append, lnG12]) (by omega) rfl rfl rfl rfl (by dsimp only; omega) (by rw [sl_app, slG12]; dsimp only; omega) (K_li_init (by rw [List.length_append, lnG12]) (by omega) (by funext k; simp [ur_])) ?_
  intro m2 hf2 hr2
  refine Y_sg (σ2 := (lay ++ ZG13 lay.length, m2)) (by rw [List.append_assoc]; rfl) ?_
  have hE : ∀ b, b < lay.length + 14 → m2 b = m1 b := fun b hb => (hf2 b hb).trans (ur_ne (by omega))
  have hl : RG6.length = 14 := rfl
  have h3 := rws_fr _ _ hrw (fun b h1 h2 => hE b (by rw [hl] at h2; exact h2))
  have h4 := rws_app _ _ _ h3 (by rw [hl]; exact hr2)
  have h5 : RG6 ++ [(z_), (z_), (z_), (z_), (z_), (z_)] = RG7 := rfl
  rw [h5] at h4
  have hfr2 : ∀ b, b < lay.length → m2 b = m0 b := fun b hb => (hE b (by omega)).trans (hfr b hb)
  refine Y_zputR 34 rfl (pc2 := 75) rfl fl_gh_52 rfl (by decide) (Nat.le_of_ble_eq_true rfl) (by omega) (Or.inl ⟨_, rfl⟩) ⟨_, _, _, rfl, rfl, rfl⟩ rfl rfl (Z2 := ZG14 lay.length) rfl ?_
  exact GF_7 hN m2 hfr2 h4 _

set_option maxHeartbeats 1000000 in
theorem GF_5 {G : Nat × (Nat → Int32)} {lay : Ly} {m0 : Mm} (hN : lay.length ≤ 700) : ∀ m1, (∀ b, b < lay.length → m1 b = m0 b) → rws m1 lay.length RG5 → ∀ (u : Option Value), Y G M_gh_init (lay.length + 153, sl_ lay + 1724) 53 [some (.ref (lay.length + 0)), u] [] (lay ++ ZG10 lay.length, m1) (pK lay (ZG36 lay.length) m0 lay.length RG18) := by
  intro m1 hfr hrw u
  refine Y_aload_n 25 rfl (pc2 := 54) rfl rfl ?_
  refine Y_znew 26 rfl (pc2 := 57) rfl nc_gh_42 (zl := 13) lnG10 (by dsimp only; omega) (by rw [slG10]; dsimp only; omega) (by omega) ?_
  refine Y_dup 27 rfl (pc2 := 58) rfl rfl ?_
  refine Y_mkc (L := lay ++ ZG10 lay.length) (n := lay.length + 13) (C := 0) (Sz := 0) 28 rfl (pc2 := 61) rfl ok_wa_init lk_gh_44 vn_wa_init (as := []) (rest := [.ref _, .ref _]) (by rw [List.length_append, lnG10]) (by omega) rfl rfl rfl rfl (by dsimp only; omega) (by rw [sl_app, slG10]; dsimp only; omega) (K_wa_init (by rw [List.length_append, lnG10]) (by omega) (by funext k; simp [ur_])) ?_
  intro m2 hf2 hr2
  refine Y_sg (σ2 := (lay ++ ZG11 lay.length, m2)) (by rw [List.append_assoc]; rfl) ?_
  have hE : ∀ b, b < lay.length + 13 → m2 b = m1 b := fun b hb => (hf2 b hb).trans (ur_ne (by omega))
  have hl : RG5.length = 13 := rfl
  have h3 := rws_fr _ _ hrw (fun b h1 h2 => hE b (by rw [hl] at h2; exact h2))
  have h4 := rws_app _ _ _ h3 (by rw [hl]; exact hr2)
  have h5 : RG5 ++ [(ua_ (ua_ (ua_ (ua_ (z_) 0 (nI 0)) 1 (nI 0)) 2 (nI 0)) 3 (nI 0))] = RG6 := rfl
  rw [h5] at h4
  have hfr2 : ∀ b, b < lay.length → m2 b = m0 b := fun b hb => (hE b (by omega)).trans (hfr b hb)
  refine Y_zputR 29 rfl (pc2 := 64) rfl fl_gh_45 rfl (by decide) (Nat.le_of_ble_eq_true rfl) (by omega) (Or.inl ⟨_, rfl⟩) ⟨_, _, _, rfl, rfl, rfl⟩ rfl rfl (Z2 := ZG12 lay.length) rfl ?_
  exact GF_6 hN m2 hfr2 h4 _

set_option maxHeartbeats 1000000 in
theorem GF_4 {G : Nat × (Nat → Int32)} {lay : Ly} {m0 : Mm} (hN : lay.length ≤ 700) : ∀ m1, (∀ b, b < lay.length → m1 b = m0 b) → rws m1 lay.length RG4 → ∀ (u : Option Value), Y G M_gh_init (lay.length + 153, sl_ lay + 1724) 42 [some (.ref (lay.length + 0)), u] [] (lay ++ ZG8 lay.length, m1) (pK lay (ZG36 lay.length) m0 lay.length RG18) := by
  intro m1 hfr hrw u
  refine Y_aload_n 20 rfl (pc2 := 43) rfl rfl ?_
  refine Y_znew 21 rfl (pc2 := 46) rfl nc_gh_35 (zl := 8) lnG8 (by dsimp only; omega) (by rw [slG8]; dsimp only; omega) (by omega) ?_
  refine Y_dup 22 rfl (pc2 := 47) rfl rfl ?_
  refine Y_mkc (L := lay ++ ZG8 lay.length) (n := lay.length + 8) (C := 4) (Sz := 16 + 16 + 16 + 144) 23 rfl (pc2 := 50) rfl ok_pi_init lk_gh_37 vn_pi_init (as := []) (rest := [.ref _, .ref _]) (by rw [List.length_append, lnG8]) (by omega) rfl rfl rfl rfl (by dsimp only; omega) (by rw [sl_app, slG8]; dsimp only; omega) (K_pi_init (by rw [List.length_append, lnG8]) (by omega) (by funext k; simp [ur_])) ?_
  intro m2 hf2 hr2
  refine Y_sg (σ2 := (lay ++ ZG9 lay.length, m2)) (by rw [List.append_assoc]; rfl) ?_
  have hE : ∀ b, b < lay.length + 8 → m2 b = m1 b := fun b hb => (hf2 b hb).trans (ur_ne (by omega))
  have hl : RG4.length = 8 := rfl
  have h3 := rws_fr _ _ hrw (fun b h1 h2 => hE b (by rw [hl] at h2; exact h2))
  have h4 := rws_app _ _ _ h3 (by rw [hl]; exact hr2)
  have h5 : RG4 ++ [(ua_ (ua_ (z_) 4 (nI 0)) 5 (nI 0)), (z_), (z_), (z_), (flr (z_) (144) NONE_)] = RG5 := rfl
  rw [h5] at h4
  have hfr2 : ∀ b, b < lay.length → m2 b = m0 b := fun b hb => (hE b (by omega)).trans (hfr b hb)
  refine Y_zputR 24 rfl (pc2 := 53) rfl fl_gh_38 rfl (by decide) (Nat.le_of_ble_eq_true rfl) (by omega) (Or.inl ⟨_, rfl⟩) ⟨_, _, _, rfl, rfl, rfl⟩ rfl rfl (Z2 := ZG10 lay.length) rfl ?_
  exact GF_5 hN m2 hfr2 h4 _

set_option maxHeartbeats 1000000 in
theorem GF_3 {G : Nat × (Nat → Int32)} {lay : Ly} {m0 : Mm} (hN : lay.length ≤ 700) : ∀ m1, (∀ b, b < lay.length → m1 b = m0 b) → rws m1 lay.length RG3 → ∀ (u : Option Value), Y G M_gh_init (lay.length + 153, sl_ lay + 1724) 34 [some (.ref (lay.length + 0)), u] [] (lay ++ ZG6 lay.length, m1) (pK lay (ZG36 lay.length) m0 lay.length RG18) := by
  intro m1 hfr hrw u
  refine Y_aload_n 16 rfl (pc2 := 35) rfl rfl ?_
  refine Y_iconst 17 rfl (pc2 := 36) rfl (v := nI 4) (by decide) ?_
  refine Y_znewq_Level 18 rfl (pc2 := 39) rfl cl_gh_29 rfl (by omega) (zl := 7) lnG6 (by dsimp only; omega) (by rw [slG6]; dsimp only; omega) (by omega) (Z2 := ZG7 lay.length) rfl ?_
  refine Y_zputR 19 rfl (pc2 := 42) rfl fl_gh_31 rfl (by decide) (Nat.le_of_ble_eq_true rfl) (by omega) (Or.inr ⟨_, rfl⟩) ⟨_, _, _, rfl, rfl, rfl⟩ rfl rfl (Z2 := ZG8 lay.length) rfl ?_
  have hl : RG3.length = 7 := rfl
  have h3 : rws (ur_ m1 (lay.length + 7) z_) lay.length RG3 := rws_fr _ _ hrw (fun b h1 h2 => ur_ne (by rw [hl] at h2; omega))
  have h4 := rws_app RG3 [(z_)] _ h3 ⟨by rw [hl]; funext k; exact ur_same, trivial⟩
  have h5 : RG3 ++ [(z_)] = RG4 := rfl
  rw [h5] at h4
  exact GF_4 hN _ (fun b hb => (ur_ne (by omega)).trans (hfr b hb)) h4 _

set_option maxHeartbeats 1000000 in
theorem GF_2 {G : Nat × (Nat → Int32)} {lay : Ly} {m0 : Mm} (hN : lay.length ≤ 700) : ∀ m1, (∀ b, b < lay.length → m1 b = m0 b) → rws m1 lay.length RG2 → ∀ (u : Option Value), Y G M_gh_init (lay.length + 153, sl_ lay + 1724) 26 [some (.ref (lay.length + 0)), u] [] (lay ++ ZG4 lay.length, m1) (pK lay (ZG36 lay.length) m0 lay.length RG18) := by
  intro m1 hfr hrw u
  refine Y_aload_n 12 rfl (pc2 := 27) rfl rfl ?_
  refine Y_iconst 13 rfl (pc2 := 28) rfl (v := nI 4) (by decide) ?_
  refine Y_znewq_Circle 14 rfl (pc2 := 31) rfl cl_gh_23 rfl (by omega) (zl := 6) lnG4 (by dsimp only; omega) (by rw [slG4]; dsimp only; omega) (by omega) (Z2 := ZG5 lay.length) rfl ?_
  refine Y_zputR 15 rfl (pc2 := 34) rfl fl_gh_25 rfl (by decide) (Nat.le_of_ble_eq_true rfl) (by omega) (Or.inr ⟨_, rfl⟩) ⟨_, _, _, rfl, rfl, rfl⟩ rfl rfl (Z2 := ZG6 lay.length) rfl ?_
  have hl : RG2.length = 6 := rfl
  have h3 : rws (ur_ m1 (lay.length + 6) z_) lay.length RG2 := rws_fr _ _ hrw (fun b h1 h2 => ur_ne (by rw [hl] at h2; omega))
  have h4 := rws_app RG2 [(z_)] _ h3 ⟨by rw [hl]; funext k; exact ur_same, trivial⟩
  have h5 : RG2 ++ [(z_)] = RG3 := rfl
  rw [h5] at h4
  exact GF_3 hN _ (fun b hb => (ur_ne (by omega)).trans (hfr b hb)) h4 _

set_option maxHeartbeats 1000000 in
theorem GF_1 {G : Nat × (Nat → Int32)} {lay : Ly} {m0 : Mm} (hN : lay.length ≤ 700) : ∀ m1, (∀ b, b < lay.length → m1 b = m0 b) → rws m1 lay.length RG1 → ∀ (u : Option Value), Y G M_gh_init (lay.length + 153, sl_ lay + 1724) 15 [some (.ref (lay.length + 0)), u] [] (lay ++ ZG2 lay.length, m1) (pK lay (ZG36 lay.length) m0 lay.length RG18) := by
  intro m1 hfr hrw u
  refine Y_aload_n 7 rfl (pc2 := 16) rfl rfl ?_
  refine Y_znew 8 rfl (pc2 := 19) rfl nc_gh_16 (zl := 3) lnG2 (by dsimp only; omega) (by rw [slG2]; dsimp only; omega) (by omega) ?_
  refine Y_dup 9 rfl (pc2 := 20) rfl rfl ?_
  refine Y_mkc (L := lay ++ ZG2 lay.length) (n := lay.length + 3) (C := 2) (Sz := 32 + 32) 10 rfl (pc2 := 23) rfl ok_re_init lk_gh_18 vn_re_init (as := []) (rest := [.ref _, .ref _]) (by rw [List.length_append, lnG2]) (by omega) rfl rfl rfl rfl (by dsimp only; omega) (by rw [sl_app, slG2]; dsimp only; omega) (K_re_init (by rw [List.length_append, lnG2]) (by omega) (by funext k; simp [ur_])) ?_
  intro m2 hf2 hr2
  refine Y_sg (σ2 := (lay ++ ZG3 lay.length, m2)) (by rw [List.append_assoc]; rfl) ?_
  have hE : ∀ b, b < lay.length + 3 → m2 b = m1 b := fun b hb => (hf2 b hb).trans (ur_ne (by omega))
  have hl : RG1.length = 3 := rfl
  have h3 := rws_fr _ _ hrw (fun b h1 h2 => hE b (by rw [hl] at h2; exact h2))
  have h4 := rws_app _ _ _ h3 (by rw [hl]; exact hr2)
  have h5 : RG1 ++ [(ua_ (ua_ (ua_ (ua_ (z_) 2 (nI 0)) 3 (NONE_)) 4 (nI 0)) 5 (nI 0)), (z_), (z_)] = RG2 := rfl
  rw [h5] at h4
  have hfr2 : ∀ b, b < lay.length → m2 b = m0 b := fun b hb => (hE b (by omega)).trans (hfr b hb)
  refine Y_zputR 11 rfl (pc2 := 26) rfl fl_gh_19 rfl (by decide) (Nat.le_of_ble_eq_true rfl) (by omega) (Or.inl ⟨_, rfl⟩) ⟨_, _, _, rfl, rfl, rfl⟩ rfl rfl (Z2 := ZG4 lay.length) rfl ?_
  exact GF_2 hN m2 hfr2 h4 _

set_option maxHeartbeats 1000000 in
theorem GF_0 {G : Nat × (Nat → Int32)} {lay : Ly} {m0 : Mm} (hN : lay.length ≤ 700) : ∀ m1, (∀ b, b < lay.length → m1 b = m0 b) → rws m1 lay.length RG0 → ∀ (u : Option Value), Y G M_gh_init (lay.length + 153, sl_ lay + 1724) 4 [some (.ref (lay.length + 0)), u] [] (lay ++ ZG0 lay.length, m1) (pK lay (ZG36 lay.length) m0 lay.length RG18) := by
  intro m1 hfr hrw u
  refine Y_aload_n 2 rfl (pc2 := 5) rfl rfl ?_
  refine Y_znew 3 rfl (pc2 := 8) rfl nc_gh_7 (zl := 1) lnG0 (by dsimp only; omega) (by rw [slG0]; dsimp only; omega) (by omega) ?_
  refine Y_dup 4 rfl (pc2 := 9) rfl rfl ?_
  refine Y_mkc (L := lay ++ ZG0 lay.length) (n := lay.length + 1) (C := 1) (Sz := 64) 5 rfl (pc2 := 12) rfl ok_ta_init lk_gh_9 vn_ta_init (as := []) (rest := [.ref _, .ref _]) (by rw [List.length_append, lnG0]) (by omega) rfl rfl rfl rfl (by dsimp only; omega) (by rw [sl_app, slG0]; dsimp only; omega) (K_ta_init (by rw [List.length_append, lnG0]) (by omega) (by funext k; simp [ur_])) ?_
  intro m2 hf2 hr2
  refine Y_sg (σ2 := (lay ++ ZG1 lay.length, m2)) (by rw [List.append_assoc]; rfl) ?_
  have hE : ∀ b, b < lay.length + 1 → m2 b = m1 b := fun b hb => (hf2 b hb).trans (ur_ne (by omega))
  have hl : RG0.length = 1 := rfl
  have h3 := rws_fr _ _ hrw (fun b h1 h2 => hE b (by rw [hl] at h2; exact h2))
  have h4 := rws_app _ _ _ h3 (by rw [hl]; exact hr2)
  have h5 : RG0 ++ [(ua_ (z_) 1 (nI 0)), (z_)] = RG1 := rfl
  rw [h5] at h4
  have hfr2 : ∀ b, b < lay.length → m2 b = m0 b := fun b hb => (hE b (by omega)).trans (hfr b hb)
  refine Y_zputR 6 rfl (pc2 := 15) rfl fl_gh_10 rfl (by decide) (Nat.le_of_ble_eq_true rfl) (by omega) (Or.inl ⟨_, rfl⟩) ⟨_, _, _, rfl, rfl, rfl⟩ rfl rfl (Z2 := ZG2 lay.length) rfl ?_
  exact GF_1 hN m2 hfr2 h4 _

set_option maxHeartbeats 1000000 in
theorem K_gh_init {G : Nat × (Nat → Int32)} {lay : Ly} {mm : Mm} {n : Nat} (hn : lay.length = n) (hN : n ≤ 700) (hz0 : mm n = z_) : Y G M_gh_init (n + 153, sl_ lay + (8 + 1716)) 0 (en_ M_gh_init [.ref n]) [] (lay ++ [(9, 8, [none, none, none, none, none, none, none, none])], mm) (pK lay (ZG36 n) mm n RG18) := by
  subst hn
  change Y _ _ _ _ [some (.ref (lay.length + 0)), none] _ _ _
  refine Y_aload_n 0 rfl (pc2 := 1) rfl rfl ?_
  refine Y_objInit 1 rfl (pc2 := 4) rfl lk_gh_1 jd_oi jd_oc (by omega) (by decide) (Nat.le_of_ble_eq_true rfl) ?_
  exact GF_0 hN mm (fun _ _ => rfl) ⟨hz0, trivial⟩ none
