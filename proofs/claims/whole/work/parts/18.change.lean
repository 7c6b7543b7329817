/-! what the calls change: strike, together, use, trim -/
set_option maxHeartbeats 400000 in
theorem ix_inj {l f g s l2 f2 g2 s2 : Nat} (hf : f < 6) (hg : g < 2) (hs : s < 16) (hf2 : f2 < 6) (hg2 : g2 < 2) (hs2 : s2 < 16) (e : ix l f g s = ix l2 f2 g2 s2) : l = l2 ∧ f = f2 ∧ g = g2 ∧ s = s2 := by
  unfold ix at e
  omega

set_option maxHeartbeats 400000 in
theorem RC_strike {m S : Mm} (h : RC m S) {l0 f0 g0 s0 : Nat} {v v2 : Int32} (hl0 : l0 < 4) (hf0 : f0 < 6) (hg0 : g0 < 2) (hs0 : s0 < 2 ^ (l0 + 1)) (hv : v = oS v2) : RC (uw_ m (45 + 27 * l0 + 4 * f0 + g0) s0 v) (uw_ S 157 (ix l0 f0 g0 s0) v2) := by
  refine ⟨fun c hc => ?_, fun c b hc hb => ?_, fun c b hc hb => ?_, fun c b hc hb => ?_, fun c b hc hb => ?_, fun l hl => ?_, fun l f g s hl hf hg hs => ?_, fun l f s hl hf hs => ?_, fun l k hl hk => ?_, ?_, fun p hp => ?_, fun p hp => ?_, fun p hp => ?_, fun r hr => ?_, ?_, ?_, fun i hi => ?_, fun s hs => ?_, fun s i hs hi => ?_⟩
  · (repeat rw [uw_ne (by omega)]); exact h.b c hc
  · (repeat rw [uw_ne (by omega)]); exact h.n c b hc hb
  · (repeat rw [uw_ne (by omega)]); exact h.g c b hc hb
  · (repeat rw [uw_ne (by omega)]); exact h.t c b hc hb
  · (repeat rw [uw_ne (by omega)]); exact h.u c b hc hb
  · rw [uw_ne (by intro q9; rcases (by omega : l = l0 ∨ l + 1 ≤ l0 ∨ l0 + 1 ≤ l) with q | q | q <;> omega)]; exact h.l l hl
  · have hz := sz_16 hl
    have hz0 := sz_16 hl0
    by_cases e : l = l0 ∧ f = f0 ∧ g = g0 ∧ s = s0
    · obtain ⟨rfl, rfl, rfl, rfl⟩ := e
      rw [uw_same, uw_same]; exact hv
    · rw [uw_ne (by intro q9; rcases (by omega : l = l0 ∨ l + 1 ≤ l0 ∨ l0 + 1 ≤ l) with q | q | q <;> rcases (by omega : f = f0 ∨ f + 1 ≤ f0 ∨ f0 + 1 ≤ f) with q2 | q2 | q2 <;> omega), uw_ne (fun q => e (ix_inj hf hg (by omega) hf0 hg0 (by omega) q.2))]
      exact h.r l f g s hl hf hg hs
  · rw [uw_ne (by intro q9; rcases (by omega : l = l0 ∨ l + 1 ≤ l0 ∨ l0 + 1 ≤ l) with q | q | q <;> rcases (by omega : f = f0 ∨ f + 1 ≤ f0 ∨ f0 + 1 ≤ f) with q2 | q2 | q2 <;> omega)]; exact h.m l f s hl hf hs
  · rw [uw_ne (by intro q9; rcases (by omega : l = l0 ∨ l + 1 ≤ l0 ∨ l0 + 1 ≤ l) with q | q | q <;> omega)]; exact h.us l k hl hk
  · (repeat rw [uw_ne (by omega)]); exact h.p 
  · (repeat rw [uw_ne (by omega)]); exact h.c p hp
  · (repeat rw [uw_ne (by omega)]); exact h.pt p hp
  · (repeat rw [uw_ne (by omega)]); exact h.pl p hp
  · (repeat rw [uw_ne (by omega)]); exact h.sg r hr
  · (repeat rw [uw_ne (by omega)]); exact h.sn 
  · (repeat rw [uw_ne (by omega)]); exact h.tp 
  · (repeat rw [uw_ne (by omega)]); exact h.tv i hi
  · (repeat rw [uw_ne (by omega)]); exact h.sp s hs
  · (repeat rw [uw_ne (by omega)]); exact h.sb s i hs hi

set_option maxHeartbeats 400000 in
theorem WF_strike {S : Mm} (w : WF S) {k0 : Nat} {v2 : Int32} (hv : isS v2) : WF (uw_ S 157 k0 v2) := by
  refine ⟨fun c hc => ?_, fun i hi => ?_, fun i hi => ?_, fun i hi => ?_, fun i hi => ?_, fun l k hl hk => ?_, ?_, fun p hp => ?_, fun p hp => ?_, fun p hp => ?_, fun p hp => ?_, fun r hr => ?_, ?_, fun i hi => ?_, fun s hs => ?_, fun i hi => ?_, ?_⟩
  · exact w.b c hc
  · exact w.n i hi
  · exact w.g i hi
  · by_cases e : i = k0
    · rw [e, uw_same]; exact hv
    · rw [uw_ne (by omega)]; exact w.s i hi
  · exact w.m i hi
  · exact w.u l k hl hk
  · exact w.p 
  · exact w.c p hp
  · exact w.t p hp
  · exact w.t1 p hp
  · exact w.l p hp
  · exact w.r r hr
  · exact w.tp 
  · exact w.tv i hi
  · exact w.pl s hs
  · exact w.k i hi
  · exact w.sg 

set_option maxHeartbeats 400000 in
theorem RC_tog {m S : Mm} (h : RC m S) {l0 f0 s0 : Nat} {v : Int32} (hl0 : l0 < 4) (hf0 : f0 < 6) (hs0 : s0 < 2 ^ (l0 + 1)) : RC (uw_ m (47 + 27 * l0 + 4 * f0) s0 v) (uw_ S 158 (iy l0 f0 s0) v) := by
  refine ⟨fun c hc => ?_, fun c b hc hb => ?_, fun c b hc hb => ?_, fun c b hc hb => ?_, fun c b hc hb => ?_, fun l hl => ?_, fun l f g s hl hf hg hs => ?_, fun l f s hl hf hs => ?_, fun l k hl hk => ?_, ?_, fun p hp => ?_, fun p hp => ?_, fun p hp => ?_, fun r hr => ?_, ?_, ?_, fun i hi => ?_, fun s hs => ?_, fun s i hs hi => ?_⟩
  · (repeat rw [uw_ne (by omega)]); exact h.b c hc
  · (repeat rw [uw_ne (by omega)]); exact h.n c b hc hb
  · (repeat rw [uw_ne (by omega)]); exact h.g c b hc hb
  · (repeat rw [uw_ne (by omega)]); exact h.t c b hc hb
  · (repeat rw [uw_ne (by omega)]); exact h.u c b hc hb
  · rw [uw_ne (by intro q9; rcases (by omega : l = l0 ∨ l + 1 ≤ l0 ∨ l0 + 1 ≤ l) with q | q | q <;> omega)]; exact h.l l hl
  · rw [uw_ne (by intro q9; rcases (by omega : l = l0 ∨ l + 1 ≤ l0 ∨ l0 + 1 ≤ l) with q | q | q <;> rcases (by omega : f = f0 ∨ f + 1 ≤ f0 ∨ f0 + 1 ≤ f) with q2 | q2 | q2 <;> omega)]; exact h.r l f g s hl hf hg hs
  · have hz := sz_16 hl
    have hz0 := sz_16 hl0
    by_cases e : l = l0 ∧ f = f0 ∧ s = s0
    · obtain ⟨rfl, rfl, rfl⟩ := e
      rw [uw_same, uw_same]
    · rw [uw_ne (by intro q9; rcases (by omega : l = l0 ∨ l + 1 ≤ l0 ∨ l0 + 1 ≤ l) with q | q | q <;> rcases (by omega : f = f0 ∨ f + 1 ≤ f0 ∨ f0 + 1 ≤ f) with q2 | q2 | q2 <;> omega), uw_ne (by unfold iy; omega)]
      exact h.m l f s hl hf hs
  · rw [uw_ne (by intro q9; rcases (by omega : l = l0 ∨ l + 1 ≤ l0 ∨ l0 + 1 ≤ l) with q | q | q <;> omega)]; exact h.us l k hl hk
  · (repeat rw [uw_ne (by omega)]); exact h.p 
  · (repeat rw [uw_ne (by omega)]); exact h.c p hp
  · (repeat rw [uw_ne (by omega)]); exact h.pt p hp
  · (repeat rw [uw_ne (by omega)]); exact h.pl p hp
  · (repeat rw [uw_ne (by omega)]); exact h.sg r hr
  · (repeat rw [uw_ne (by omega)]); exact h.sn 
  · (repeat rw [uw_ne (by omega)]); exact h.tp 
  · (repeat rw [uw_ne (by omega)]); exact h.tv i hi
  · (repeat rw [uw_ne (by omega)]); exact h.sp s hs
  · (repeat rw [uw_ne (by omega)]); exact h.sb s i hs hi

set_option maxHeartbeats 400000 in
theorem WF_tog {S : Mm} (w : WF S) {k0 : Nat} {v : Int32} (hv : iR v 2) : WF (uw_ S 158 k0 v) := by
  refine ⟨fun c hc => ?_, fun i hi => ?_, fun i hi => ?_, fun i hi => ?_, fun i hi => ?_, fun l k hl hk => ?_, ?_, fun p hp => ?_, fun p hp => ?_, fun p hp => ?_, fun p hp => ?_, fun r hr => ?_, ?_, fun i hi => ?_, fun s hs => ?_, fun i hi => ?_, ?_⟩
  · exact w.b c hc
  · exact w.n i hi
  · exact w.g i hi
  · exact w.s i hi
  · by_cases e : i = k0
    · rw [e, uw_same]; exact hv
    · rw [uw_ne (by omega)]; exact w.m i hi
  · exact w.u l k hl hk
  · exact w.p 
  · exact w.c p hp
  · exact w.t p hp
  · exact w.t1 p hp
  · exact w.l p hp
  · exact w.r r hr
  · exact w.tp 
  · exact w.tv i hi
  · exact w.pl s hs
  · exact w.k i hi
  · exact w.sg 

set_option maxHeartbeats 400000 in
theorem RC_use {m S : Mm} (h : RC m S) {l0 k0 : Nat} {v : Int32} (hl0 : l0 < 4) (hk0 : k0 < 3) : RC (uw_ m (43 + 27 * l0) k0 v) (uw_ S 159 (3 * l0 + k0) v) := by
  refine ⟨fun c hc => ?_, fun c b hc hb => ?_, fun c b hc hb => ?_, fun c b hc hb => ?_, fun c b hc hb => ?_, fun l hl => ?_, fun l f g s hl hf hg hs => ?_, fun l f s hl hf hs => ?_, fun l k hl hk => ?_, ?_, fun p hp => ?_, fun p hp => ?_, fun p hp => ?_, fun r hr => ?_, ?_, ?_, fun i hi => ?_, fun s hs => ?_, fun s i hs hi => ?_⟩
  · (repeat rw [uw_ne (by omega)]); exact h.b c hc
  · (repeat rw [uw_ne (by omega)]); exact h.n c b hc hb
  · (repeat rw [uw_ne (by omega)]); exact h.g c b hc hb
  · (repeat rw [uw_ne (by omega)]); exact h.t c b hc hb
  · (repeat rw [uw_ne (by omega)]); exact h.u c b hc hb
  · rw [uw_ne (by intro q9; rcases (by omega : l = l0 ∨ l + 1 ≤ l0 ∨ l0 + 1 ≤ l) with q | q | q <;> omega)]; exact h.l l hl
  · rw [uw_ne (by intro q9; rcases (by omega : l = l0 ∨ l + 1 ≤ l0 ∨ l0 + 1 ≤ l) with q | q | q <;> omega)]; exact h.r l f g s hl hf hg hs
  · rw [uw_ne (by intro q9; rcases (by omega : l = l0 ∨ l + 1 ≤ l0 ∨ l0 + 1 ≤ l) with q | q | q <;> omega)]; exact h.m l f s hl hf hs
  · by_cases e : l = l0 ∧ k = k0
    · obtain ⟨rfl, rfl⟩ := e
      rw [uw_same, uw_same]
    · rw [uw_ne (by omega), uw_ne (by omega)]
      exact h.us l k hl hk
  · (repeat rw [uw_ne (by omega)]); exact h.p 
  · (repeat rw [uw_ne (by omega)]); exact h.c p hp
  · (repeat rw [uw_ne (by omega)]); exact h.pt p hp
  · (repeat rw [uw_ne (by omega)]); exact h.pl p hp
  · (repeat rw [uw_ne (by omega)]); exact h.sg r hr
  · (repeat rw [uw_ne (by omega)]); exact h.sn 
  · (repeat rw [uw_ne (by omega)]); exact h.tp 
  · (repeat rw [uw_ne (by omega)]); exact h.tv i hi
  · (repeat rw [uw_ne (by omega)]); exact h.sp s hs
  · (repeat rw [uw_ne (by omega)]); exact h.sb s i hs hi

set_option maxHeartbeats 400000 in
theorem WF_use {S : Mm} (w : WF S) {l0 k0 q : Nat} (hl0 : l0 < 4) (hk0 : k0 < 3) (hq : q < 6) : WF (uw_ S 159 (3 * l0 + k0) (nI q)) := by
  refine ⟨fun c hc => ?_, fun i hi => ?_, fun i hi => ?_, fun i hi => ?_, fun i hi => ?_, fun l k hl hk => ?_, ?_, fun p hp => ?_, fun p hp => ?_, fun p hp => ?_, fun p hp => ?_, fun r hr => ?_, ?_, fun i hi => ?_, fun s hs => ?_, fun i hi => ?_, ?_⟩
  · exact w.b c hc
  · exact w.n i hi
  · exact w.g i hi
  · exact w.s i hi
  · exact w.m i hi
  · by_cases e : l = l0 ∧ k = k0
    · obtain ⟨rfl, rfl⟩ := e
      unfold us
      rw [uw_same, nv_nI (by omega)]; exact ⟨rfl, hq⟩
    · unfold us
      rw [uw_ne (by omega)]
      exact w.u l k hl hk
  · exact w.p 
  · exact w.c p hp
  · exact w.t p hp
  · exact w.t1 p hp
  · exact w.l p hp
  · exact w.r r hr
  · exact w.tp 
  · exact w.tv i hi
  · exact w.pl s hs
  · exact w.k i hi
  · exact w.sg 

set_option maxHeartbeats 400000 in
theorem RC_trim {m S : Mm} (h : RC m S) {v : Int32} : RC (uw_ m 1 1 v) (uw_ S 153 12 v) := by
  refine ⟨fun c hc => ?_, fun c b hc hb => ?_, fun c b hc hb => ?_, fun c b hc hb => ?_, fun c b hc hb => ?_, fun l hl => ?_, fun l f g s hl hf hg hs => ?_, fun l f s hl hf hs => ?_, fun l k hl hk => ?_, ?_, fun p hp => ?_, fun p hp => ?_, fun p hp => ?_, fun r hr => ?_, ?_, ?_, fun i hi => ?_, fun s hs => ?_, fun s i hs hi => ?_⟩
  · (repeat rw [uw_ne (by omega)]); exact h.b c hc
  · (repeat rw [uw_ne (by omega)]); exact h.n c b hc hb
  · (repeat rw [uw_ne (by omega)]); exact h.g c b hc hb
  · (repeat rw [uw_ne (by omega)]); exact h.t c b hc hb
  · (repeat rw [uw_ne (by omega)]); exact h.u c b hc hb
  · (repeat rw [uw_ne (by omega)]); exact h.l l hl
  · (repeat rw [uw_ne (by omega)]); exact h.r l f g s hl hf hg hs
  · (repeat rw [uw_ne (by omega)]); exact h.m l f s hl hf hs
  · (repeat rw [uw_ne (by omega)]); exact h.us l k hl hk
  · (repeat rw [uw_ne (by omega)]); exact h.p 
  · (repeat rw [uw_ne (by omega)]); exact h.c p hp
  · (repeat rw [uw_ne (by omega)]); exact h.pt p hp
  · (repeat rw [uw_ne (by omega)]); exact h.pl p hp
  · (repeat rw [uw_ne (by omega)]); exact h.sg r hr
  · (repeat rw [uw_ne (by omega)]); exact h.sn 
  · rw [uw_same, uw_same]
  · (repeat rw [uw_ne (by omega)]); exact h.tv i hi
  · (repeat rw [uw_ne (by omega)]); exact h.sp s hs
  · (repeat rw [uw_ne (by omega)]); exact h.sb s i hs hi

set_option maxHeartbeats 400000 in
theorem WF_trim {S : Mm} (w : WF S) {q : Nat} (hq : q ≤ 64) : WF (uw_ S 153 12 (nI q)) := by
  refine ⟨fun c hc => ?_, fun i hi => ?_, fun i hi => ?_, fun i hi => ?_, fun i hi => ?_, fun l k hl hk => ?_, ?_, fun p hp => ?_, fun p hp => ?_, fun p hp => ?_, fun p hp => ?_, fun r hr => ?_, ?_, fun i hi => ?_, fun s hs => ?_, fun i hi => ?_, ?_⟩
  · exact w.b c hc
  · exact w.n i hi
  · exact w.g i hi
  · exact w.s i hi
  · exact w.m i hi
  · exact w.u l k hl hk
  · exact w.p 
  · exact w.c p hp
  · exact w.t p hp
  · exact w.t1 p hp
  · exact w.l p hp
  · exact w.r r hr
  · unfold tpd
    rw [uw_same, nv_nI (by omega)]; exact ⟨rfl, hq⟩
  · exact w.tv i hi
  · exact w.pl s hs
  · exact w.k i hi
  · exact w.sg 
