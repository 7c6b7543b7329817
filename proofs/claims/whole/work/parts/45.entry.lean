/-! the start of the law, out of the claim's words -/
set_option maxHeartbeats 1000000 in
theorem ws_cl {args : Array Value} {s : State} (hts : ∀ w ∈ lw_tbl, w.before args s = true) : ∃ (dC : Nat → ClassId) (dI : Nat → Nat → Nat), ∀ (c : Nat) (q : vw_C), vwCl[c]? = some q → u_Kn s q.1 q.2.1 q.2.2 (dC c) (dI c) := by
  have hx : ∀ c : Nat, ∃ z : ClassId × (Nat → Nat), ∀ q, vwCl[c]? = some q → u_Kn s q.1 q.2.1 q.2.2 z.1 z.2 := by
    intro c
    match c with
    | 0 =>
      obtain ⟨cC, iS, h⟩ := u_known (C := RX0) (T := TX0) (N := 5) (n := 5) hts (fun w hw => (tb_g w (cw_0 w hw)).1) (hts (.instantiable RX0 5) (by decide +kernel))
      exact ⟨(cC, iS), fun q hq => by cases hq; exact h⟩
    | 1 =>
      obtain ⟨cC, iS, h⟩ := u_known (C := RX1) (T := TX1) (N := 3) (n := 3) hts (fun w hw => (tb_g w (cw_1 w hw)).1) (hts (.instantiable RX1 3) (by decide +kernel))
      exact ⟨(cC, iS), fun q hq => by cases hq; exact h⟩
    | 2 =>
      obtain ⟨cC, iS, h⟩ := u_known (C := RX2) (T := TX2) (N := 3) (n := 3) hts (fun w hw => (tb_g w (cw_2 w hw)).1) (hts (.instantiable RX2 3) (by decide +kernel))
      exact ⟨(cC, iS), fun q hq => by cases hq; exact h⟩
    | 3 =>
      obtain ⟨cC, iS, h⟩ := u_known (C := RX3) (T := TX3) (N := 5) (n := 5) hts (fun w hw => (tb_g w (cw_3 w hw)).1) (hts (.instantiable RX3 5) (by decide +kernel))
      exact ⟨(cC, iS), fun q hq => by cases hq; exact h⟩
    | 4 =>
      obtain ⟨cC, iS, h⟩ := u_known (C := RX4) (T := TX4) (N := 6) (n := 6) hts (fun w hw => (tb_g w (cw_4 w hw)).1) (hts (.instantiable RX4 6) (by decide +kernel))
      exact ⟨(cC, iS), fun q hq => by cases hq; exact h⟩
    | 5 =>
      obtain ⟨cC, iS, h⟩ := u_known (C := RX5) (T := TX5) (N := 2) (n := 2) hts (fun w hw => (tb_g w (cw_5 w hw)).1) (hts (.instantiable RX5 2) (by decide +kernel))
      exact ⟨(cC, iS), fun q hq => by cases hq; exact h⟩
    | 6 =>
      obtain ⟨cC, iS, h⟩ := u_known (C := RX6) (T := TX6) (N := 2) (n := 2) hts (fun w hw => (tb_g w (cw_6 w hw)).1) (hts (.instantiable RX6 2) (by decide +kernel))
      exact ⟨(cC, iS), fun q hq => by cases hq; exact h⟩
    | 7 =>
      obtain ⟨cC, iS, h⟩ := u_known (C := RX7) (T := TX7) (N := 6) (n := 6) hts (fun w hw => (tb_g w (cw_7 w hw)).1) (hts (.instantiable RX7 6) (by decide +kernel))
      exact ⟨(cC, iS), fun q hq => by cases hq; exact h⟩
    | 8 =>
      obtain ⟨cC, iS, h⟩ := u_known (C := RX8) (T := TX8) (N := 4) (n := 4) hts (fun w hw => (tb_g w (cw_8 w hw)).1) (hts (.instantiable RX8 4) (by decide +kernel))
      exact ⟨(cC, iS), fun q hq => by cases hq; exact h⟩
    | 9 =>
      obtain ⟨cC, iS, h⟩ := u_known (C := RX9) (T := TX9) (N := 8) (n := 8) hts (fun w hw => (tb_g w (cw_9 w hw)).1) (hts (.instantiable RX9 8) (by decide +kernel))
      exact ⟨(cC, iS), fun q hq => by cases hq; exact h⟩
    | 10 =>
      obtain ⟨cC, iS, h⟩ := u_known (C := RX10) (T := TX10) (N := 24) (n := 24) hts (fun w hw => (tb_g w (cw_10 w hw)).1) (hts (.instantiable RX10 24) (by decide +kernel))
      exact ⟨(cC, iS), fun q hq => by cases hq; exact h⟩
    | k + 11 => exact ⟨(0, fun _ => 0), fun q hq => by simp [vwCl] at hq⟩
  exact ⟨fun c => (Classical.choose (hx c)).1, fun c => (Classical.choose (hx c)).2, fun c q hq => Classical.choose_spec (hx c) q hq⟩
set_option maxHeartbeats 1000000 in
theorem ar_p {args : Array Value} {s : State} {t : FieldType} (ht : va_RA s = va_RA s) (h : (Cond.arrayClass t).before args s = true) (hn : ∀ c, s.vm.findClass ("[" ++ t.toString) = some c → va_RA s c t) : ∃ c, ArrOfT s c t ∧ va_RA s c t := by
  obtain ⟨c, k, comp, h1, h2, h3⟩ := Cond.arrayClass_spec h
  exact ⟨c, fun n z => ⟨fun q hq => (by cases hq), k, h2, comp, h3⟩, hn c h1⟩
set_option maxHeartbeats 1000000 in
theorem ar_o {s : State} {C : String} (h : va_AO C s) : ∃ c, ArrOfT s c (.object C) ∧ va_RA s c (.object C) := by
  obtain ⟨comp, c, k, h1, h2, h3, h4, h5⟩ := Cond.arrayOver_spec h
  exact ⟨c, fun n z => ⟨fun q hq => (by cases hq), k, h3, comp, h4⟩, k, comp, h3, h4, h1, h5⟩
set_option maxHeartbeats 1000000 in
theorem ws_ar {args : Array Value} {s : State} (hts : ∀ w ∈ lw_tbl, w.before args s = true) : ∃ cA : Nat → ClassId, ∀ (k : Nat) (q : ClassId × FieldType), (ty_s cA)[k]? = some q → ArrOfT s q.1 q.2 ∧ va_RA s q.1 q.2 := by
  obtain ⟨c1, h1⟩ := ar_p (t := .byte) rfl (hts (.arrayClass .byte) (by decide +kernel)) (fun c h => h)
  obtain ⟨c2, h2⟩ := ar_p (t := .int) rfl (hts (.arrayClass .int) (by decide +kernel)) (fun c h => h)
  obtain ⟨c3, h3⟩ := ar_p (t := .boolean) rfl (hts (.arrayClass .boolean) (by decide +kernel)) (fun c h => h)
  obtain ⟨c4, h4⟩ := ar_o (va_AO.of (hts (.arrayOver (.object "GongHouse$Circle")) (by decide +kernel)))
  obtain ⟨c5, h5⟩ := ar_o (va_AO.of (hts (.arrayOver (.object "GongHouse$Figure")) (by decide +kernel)))
  obtain ⟨c6, h6⟩ := ar_o (va_AO.of (hts (.arrayOver (.object "GongHouse$Level")) (by decide +kernel)))
  obtain ⟨c7, h7⟩ := ar_o (va_AO.of (hts (.arrayOver (.object "GongHouse$Sheet")) (by decide +kernel)))
  refine ⟨fun k => match k with | 11 => c1 | 12 => c2 | 13 => c3 | 14 => c4 | 15 => c5 | 16 => c6 | _ => c7, fun k q hq => ?_⟩
  match k, hq with
  | 0, hq => cases hq; exact h1
  | 1, hq => cases hq; exact h2
  | 2, hq => cases hq; exact h3
  | 3, hq => cases hq; exact h4
  | 4, hq => cases hq; exact h5
  | 5, hq => cases hq; exact h6
  | 6, hq => cases hq; exact h7
  | k + 7, hq => simp [ty_s] at hq
