/-! the class: tune -/
def tnR (row : Nat → Int32) (c n : Nat) (f : Nat → Int32) : Nat → Int32 := fun k => if 32 * c ≤ k ∧ k < 32 * c + n then f (k - 32 * c) else row k
def tnS (S : Mm) (c : Nat) (q : Qt) : Mm := uw_ (ur_ (ur_ (uw_ S 154 c (nI q.1)) 155 (tnR (S 155) c q.1 q.2.1)) 156 (tnR (S 156) c q.1 q.2.2)) 153 12 (nI 0)
def tuC (S : Mm) : Prop := (rT S).1 = none ∧ 2 ≤ (rT S).2.1 ∧ (rT S).2.1 ≤ 32
noncomputable def sp_tune (S : Mm) (x : Int32) : Int32 := cI (iR x 4) (match (rT S).1 with
  | some p => -100 - nI p
  | none => cI (2 ≤ (rT S).2.1 ∧ (rT S).2.1 ≤ 32) (nI (rT S).2.1) NO_) BAD_
noncomputable def st_tune (S : Mm) (x : Int32) : Mm := cI (iR x 4 ∧ tuC S) (tnS S (nv x) (rT S).2) (uw_ S 153 12 (nI 0))
set_option maxHeartbeats 400000 in
theorem tn_154 {S : Mm} {c d : Nat} {q : Qt} : tnS S c q 154 d = if d = c then nI q.1 else S 154 d := by
  show uw_ S 154 c (nI q.1) 154 d = _
  by_cases e : d = c
  · rw [if_pos e, e, uw_same]
  · rw [if_neg e, uw_ne (by omega)]
set_option maxHeartbeats 400000 in
theorem tn_155 {S : Mm} {c k : Nat} {q : Qt} : tnS S c q 155 k = tnR (S 155) c q.1 q.2.1 k := rfl
set_option maxHeartbeats 400000 in
theorem tn_156 {S : Mm} {c k : Nat} {q : Qt} : tnS S c q 156 k = tnR (S 156) c q.1 q.2.2 k := rfl
set_option maxHeartbeats 400000 in
theorem tn_bt {S : Mm} {c d : Nat} {q : Qt} (hn : q.1 < 2 ^ 31) : bt (tnS S c q) d = if d = c then q.1 else bt S d := by
  unfold bt
  rw [tn_154]
  split
  · exact nv_nI hn
  · rfl
set_option maxHeartbeats 400000 in
theorem tnR_at {row : Nat → Int32} {c d n b : Nat} {f : Nat → Int32} (hb : b < 32) (hn : n ≤ 32) : tnR row c n f (32 * d + b) = if d = c ∧ b < n then f b else row (32 * d + b) := by
  unfold tnR
  by_cases e : d = c ∧ b < n
  · rw [if_pos e, if_pos (by omega)]; congr 1; omega
  · rw [if_neg e, if_neg (by omega)]
set_option maxHeartbeats 400000 in
theorem tn_rw {S : Mm} {c d : Nat} {q : Qt} (hn : q.1 ≤ 32) {b : Nat} (hb : b < 32) : rw_ (tnS S c q) d b = if d = c ∧ b < q.1 then q.2.1 b else rw_ S d b := by
  show tnR (S 155) c q.1 q.2.1 (32 * d + b) = _
  rw [tnR_at hb hn]; rfl
set_option maxHeartbeats 400000 in
theorem tn_tone {S : Mm} (w : WF S) {c d : Nat} {q : Qt} (hn : q.1 ≤ 32) (hd : d < 4) {b : Nat} (hb : b < bt (tnS S c q) d) : tone (tnS S c q) d b = if d = c then toneR q.2.1 q.1 b else tone S d b := by
  have hw := (w.b d hd).2
  rw [tn_bt (by omega)] at hb
  unfold tone
  rw [tn_bt (by omega)]
  by_cases e : d = c
  · rw [if_pos e, if_pos e] at *
    exact toneR_congr (fun i hi => by rw [tn_rw hn (by omega), if_pos ⟨e, hi⟩]) hb
  · rw [if_neg e, if_neg e] at *
    exact toneR_congr (fun i hi => by rw [tn_rw hn (by omega), if_neg (fun h => e h.1)]) hb
set_option maxHeartbeats 400000 in
theorem tn_turn {S : Mm} (w : WF S) {c d : Nat} {q : Qt} (hn : q.1 ≤ 32) (h1 : 1 ≤ q.1) (hd : d < 4) {b : Nat} (hb : b < bt (tnS S c q) d) : turn (tnS S c q) d b = if d = c then turnR (toneR q.2.1 q.1 b) (toneR q.2.1 q.1 (nxt q.1 b)) else turn S d b := by
  have hw := (w.b d hd).2
  have hx : nxt (bt (tnS S c q) d) b < bt (tnS S c q) d := nxt_lt (by omega)
  unfold turn
  rw [tn_tone w hn hd hb, tn_tone w hn hd hx, tn_bt (by omega)]
  by_cases e : d = c
  · rw [if_pos e, if_pos e, if_pos e, if_pos e]
  · rw [if_neg e, if_neg e, if_neg e, if_neg e]

set_option maxHeartbeats 400000 in
theorem RC_tune {m m2 S : Mm} (h : RC m S) (w : WF S) {c0 : Nat} {q : Qt} (hc0 : c0 < 4) (hn : q.1 ≤ 32) (h1 : 1 ≤ q.1) (hb1 : m2 (21 + 5 * c0) 4 = nI q.1) (hb2 : ∀ b, b < 32 → m2 (22 + 5 * c0) b = if b < q.1 then oC (q.2.1 b) else m (22 + 5 * c0) b) (hb3 : ∀ b, b < 32 → m2 (23 + 5 * c0) b = if b < q.1 then oC (q.2.2 b) else m (23 + 5 * c0) b) (hb4 : ∀ b, b < q.1 → m2 (24 + 5 * c0) b = toneR q.2.1 q.1 b) (hb5 : ∀ b, b < q.1 → m2 (25 + 5 * c0) b = nI (turnR (toneR q.2.1 q.1 b) (toneR q.2.1 q.1 (nxt q.1 b)))) (ht1 : m2 1 1 = nI 0) (hfr : ∀ a, ¬ (21 + 5 * c0 ≤ a ∧ a ≤ 25 + 5 * c0) → ¬ (a = 1 ∨ a = 3 ∨ a = 4 ∨ a = 5) → m2 a = m a) : RC m2 (tnS S c0 q) := by
  refine ⟨fun c hc => ?_, fun c b hc hb => ?_, fun c b hc hb => ?_, fun c b hc hb => ?_, fun c b hc hb => ?_, fun l hl => ?_, fun l f g s hl hf hg hs => ?_, fun l f s hl hf hs => ?_, fun l k hl hk => ?_, ?_, fun p hp => ?_, fun p hp => ?_, fun p hp => ?_, fun r hr => ?_, ?_, ?_, fun i hi => ?_, fun s hs => ?_, fun s i hs hi => ?_⟩
  · rw [tn_154]
    by_cases e : c = c0
    · rw [if_pos e, e]; exact hb1
    · rw [if_neg e, hfr _ (by omega) (by omega)]; exact h.b c hc
  · rw [tn_155, tnR_at hb hn]
    by_cases e : c = c0
    · subst e
      rw [hb2 b hb]
      by_cases e2 : b < q.1
      · rw [if_pos e2, if_pos ⟨rfl, e2⟩]
      · rw [if_neg e2, if_neg (fun z => e2 z.2)]; exact h.n c b hc hb
    · rw [if_neg (fun z => e z.1), hfr _ (by omega) (by omega)]; exact h.n c b hc hb
  · rw [tn_156, tnR_at hb hn]
    by_cases e : c = c0
    · subst e
      rw [hb3 b hb]
      by_cases e2 : b < q.1
      · rw [if_pos e2, if_pos ⟨rfl, e2⟩]
      · rw [if_neg e2, if_neg (fun z => e2 z.2)]; exact h.g c b hc hb
    · rw [if_neg (fun z => e z.1), hfr _ (by omega) (by omega)]; exact h.g c b hc hb
  · rw [tn_tone w hn hc hb]
    rw [tn_bt (by omega)] at hb
    by_cases e : c = c0
    · subst e
      rw [if_pos rfl] at hb ⊢
      exact hb4 b hb
    · rw [if_neg e] at hb ⊢
      rw [hfr _ (by omega) (by omega)]; exact h.t c b hc hb
  · rw [tn_turn w hn h1 hc hb]
    rw [tn_bt (by omega)] at hb
    by_cases e : c = c0
    · subst e
      rw [if_pos rfl] at hb ⊢
      exact hb5 b hb
    · rw [if_neg e] at hb ⊢
      rw [hfr _ (by omega) (by omega)]; exact h.u c b hc hb
  · rw [hfr _ (by omega) (by omega)]; exact h.l l hl
  · rw [hfr _ (by omega) (by omega)]; exact h.r l f g s hl hf hg hs
  · rw [hfr _ (by omega) (by omega)]; exact h.m l f s hl hf hs
  · rw [hfr _ (by omega) (by omega)]; exact h.us l k hl hk
  · rw [hfr _ (by omega) (by omega)]; exact h.p 
  · rw [hfr _ (by omega) (by omega)]; exact h.c p hp
  · rw [hfr _ (by omega) (by omega)]; exact h.pt p hp
  · rw [hfr _ (by omega) (by omega)]; exact h.pl p hp
  · rw [hfr _ (by omega) (by omega)]; exact h.sg r hr
  · rw [hfr _ (by omega) (by omega)]; exact h.sn 
  · rw [ht1]; show _ = uw_ _ 153 12 _ 153 12; rw [uw_same]
  · rw [hfr _ (by omega) (by omega)]; exact h.tv i hi
  · rw [hfr _ (by omega) (by omega)]; exact h.sp s hs
  · rw [hfr _ (by omega) (by omega)]; exact h.sb s i hs hi

set_option maxHeartbeats 400000 in
theorem WF_tune {S : Mm} (w : WF S) {c0 : Nat} {q : Qt} (hc0 : c0 < 4) (hn : q.1 ≤ 32) (h2 : 2 ≤ q.1) (hk : qok q) : WF (tnS S c0 q) := by
  refine ⟨fun c hc => ?_, fun i hi => ?_, fun i hi => ?_, fun i hi => ?_, fun i hi => ?_, fun l k hl hk => ?_, ?_, fun p hp => ?_, fun p hp => ?_, fun p hp => ?_, fun p hp => ?_, fun r hr => ?_, ?_, fun i hi => ?_, fun s hs => ?_, fun i hi => ?_, ?_⟩
  · rw [tn_bt (by omega), tn_154]
    by_cases e : c = c0
    · rw [if_pos e, if_pos e]; exact ⟨rfl, h2, hn⟩
    · rw [if_neg e, if_neg e]; exact w.b c hc
  · rw [tn_155]
    unfold tnR
    split
    · exact (hk _).1
    · exact w.n i hi
  · rw [tn_156]
    unfold tnR
    split
    · exact (hk _).2
    · exact w.g i hi
  · exact w.s i hi
  · exact w.m i hi
  · exact w.u l k hl hk
  · exact w.p 
  · exact w.c p hp
  · exact w.t p hp
  · exact w.t1 p hp
  · exact w.l p hp
  · exact w.r r hr
  · exact ⟨rfl, Nat.zero_le _⟩
  · exact w.tv i hi
  · exact w.pl s hs
  · exact w.k i hi
  · exact w.sg 

set_option maxHeartbeats 400000 in
theorem qok_push {q : Qt} {a g : Int32} (h : qok q) (ha : oR a 7) (hg : oR g 4) : qok (qpush q a g) := by
  intro i
  refine ⟨?_, ?_⟩
  · show oR (if i = q.1 then a else q.2.1 i) 7
    split
    · exact ha
    · exact (h i).1
  · show oR (if i = q.1 then g else q.2.2 i) 4
    split
    · exact hg
    · exact (h i).2
set_option maxHeartbeats 400000 in
theorem qok_set {q : Qt} {k : Int32} (h : qok q) (hk : oR k 4) : qok (qset q k) := by
  intro i
  refine ⟨(h i).1, ?_⟩
  show oR (if i + 1 = q.1 then k else q.2.2 i) 4
  split
  · exact hk
  · exact (h i).2
set_option maxHeartbeats 400000 in
theorem qok_rp {q : Qt} {s u : Nat} (h : qok q) : ∀ k, qok (rp q s u k)
  | 0 => h
  | k + 1 => qok_push (qok_rp h k) ((qok_rp h k) _).1 ((qok_rp h k) _).2
set_option maxHeartbeats 400000 in
theorem qok_stp {v : Nat} {s s2 : As} (h : qok s.1) (hs : stp v s = some s2) : qok s2.1 := by
  unfold stp at hs
  split at hs
  · split at hs
    · cases hs; exact qok_rp h _
    · cases hs
  · split at hs
    · split at hs
      · cases hs; exact h
      · cases hs
    · split at hs
      · split at hs
        · cases hs
        · cases hs; exact h
      · split at hs
        · cases hs; exact qok_push h (Or.inl rfl) (Or.inl rfl)
        · split at hs
          · cases hs; exact qok_push h (Or.inr ⟨v - 49, by omega, rfl⟩) (Or.inl rfl)
          · split at hs
            · cases hs; exact qok_set h (gk_or v)
            · cases hs
set_option maxHeartbeats 400000 in
theorem qok_au {t : Nat → Nat} : ∀ k p (s : As), qok s.1 → qok (au t k p s).2
  | 0, p, s, h => by
    show qok (if 0 < s.1.1 ∧ s.2.1 = none then (none, s.1) else (some p, s.1)).2
    split <;> exact h
  | k + 1, p, s, h => by
    cases e : stp (t p) s with
    | none => rw [au_no e]; exact h
    | some s2 => rw [au_go e]; exact qok_au k (p + 1) s2 (qok_stp h e)
set_option maxHeartbeats 400000 in
theorem qok_rT {S : Mm} : qok (rT S).2 := qok_au _ _ _ (fun i => ⟨Or.inl rfl, Or.inl rfl⟩)
set_option maxHeartbeats 400000 in
theorem rT_p {t : Nat → Nat} : ∀ k p (s : As) x, (au t k p s).1 = some x → x ≤ p + k
  | 0, p, s, x, h => by
    have h2 : (if 0 < s.1.1 ∧ s.2.1 = none then ((none : Option Nat), s.1) else (some p, s.1)).1 = some x := h
    split at h2
    · cases h2
    · cases h2; omega
  | k + 1, p, s, x, h => by
    cases e : stp (t p) s with
    | none => rw [au_no e] at h; cases h; omega
    | some s2 => rw [au_go e] at h; have := rT_p k (p + 1) s2 x h; omega
set_option maxHeartbeats 400000 in
theorem rT_le {S : Mm} {x : Nat} (h : (rT S).1 = some x) : x ≤ tpd S := by
  have := rT_p _ _ _ _ h
  omega

set_option maxHeartbeats 400000 in
theorem RQ_f2 {m : Mm} {q : Qt} {k : Nat} {v : Int32} (h : RQ m q) : RQ (uw_ m 1 k v) q :=
  ⟨(uw_ne (by omega)).trans h.1, fun i h1 h2 => ⟨(uw_ne (by omega)).trans (h.2 i h1 h2).1, (uw_ne (by omega)).trans (h.2 i h1 h2).2⟩⟩

set_option maxHeartbeats 400000 in
theorem T_gh_tune {G : Nat × (Nat → Int32)} {m : Mm} {S : Mm} (h : RC m S) (w : WF S) {x : Int32} : Y G M_gh_tune (0, 0) 0 (en_ M_gh_tune [.ref (0), .int (x)]) [] (LAY, m) (qm_ LAY (pc_ (sp_tune S x) m (st_tune S x))) := by
  change Y _ _ _ _ [some (.ref _), some (.int _), none] _ _ _
  refine Y_aload_n 0 rfl (pc2 := 1) rfl rfl ?_
  refine Y_getR 1 rfl (pc2 := 4) rfl fl_gh_19 ly_gh (by decide) rfl rfl (by omega) ?_
  refine Y_aload_n 2 rfl (pc2 := 5) rfl rfl ?_
  refine Y_getR 3 rfl (pc2 := 8) rfl fl_gh_10 ly_gh (by decide) rfl rfl (by omega) ?_
  refine Y_cV 4 rfl (pc2 := 11) rfl ok_re_faultOf lk_gh_76 vi_re_faultOf ly_re rfl (by decide) rfl (as := [.ref _]) (rest := []) rfl rfl (T_re_faultOf h w) ?_
  rintro _ m1 ⟨hF, rfl, hQ⟩
  change Y _ _ _ _ _ [.int _] _ _
  refine Y_istore_n 5 rfl (pc2 := 12) rfl (Nat.le_of_ble_eq_true rfl) (ls2 := [some (.ref _), some (.int _), some (.int _)]) rfl ?_
  refine Y_aload_n 6 rfl (pc2 := 13) rfl rfl ?_
  refine Y_getR 7 rfl (pc2 := 16) rfl fl_gh_10 ly_gh (by decide) rfl rfl (by omega) ?_
  refine Y_iconst 8 rfl (pc2 := 17) rfl (v := nI 0) (by decide) ?_
  refine Y_putI 9 rfl (pc2 := 20) rfl fl_gh_67 ly_ta (by decide) ⟨rfl, rfl⟩ ⟨_, _, _, rfl, rfl⟩ rfl ?_
  have hm1 : RC m1 S := h.mono (fun a ha _ => hF a (by intro z; apply ha; unfold scr; omega))
  have ht := w.tp.2
  have hop := opI_none (op := (rT S).1) (fun k e => by have := rT_le e; omega)
  have hfr : ∀ a, ¬ (a = 1 ∨ a = 3 ∨ a = 4 ∨ a = 5) → uw_ m1 1 1 (nI 0) a = m a := fun a ha => by rw [← hF a (by omega)]; funext k; exact uw_ne (by omega)
  refine Y_iload_n 10 rfl (pc2 := 21) rfl rfl ?_
  refine Y_iconst 11 rfl (pc2 := 22) rfl (v := nI 4) (by decide) ?_
  refine Y_cS 12 rfl (pc2 := 25) rfl ok_gh_isBelow lk_gh_80 vs_gh_isBelow (as := [.int _, .int _]) (rest := []) rfl rfl (T_gh_isBelow (by omega)) ?_
  rintro _ _ ⟨rfl, rfl⟩
  change Y _ _ _ _ _ [.int _] _ _
  refine Y_if_neb 13 rfl (pc2 := 28) rfl (tgt := 31) (by decide) (fun h25 => ?_) (fun h25 => ?_)
  · obtain ⟨c, hc, rfl⟩ := h25
    refine Y_iload_n 16 rfl (pc2 := 32) rfl rfl ?_
    refine Y_ldc 17 rfl (pc2 := 34) rfl kc_gh_84 ?_
    refine Y_icmp_eq 18 rfl (pc2 := 37) rfl (tgt := 42) (by decide) (fun h34 => ?_) (fun h34 => ?_)
    · have hno := hop.mp h34
      have hle := (hQ hno).2
      refine Y_aload_n 23 rfl (pc2 := 43) rfl rfl ?_
      refine Y_getR 24 rfl (pc2 := 46) rfl fl_gh_19 ly_gh (by decide) rfl rfl (by omega) ?_
      refine Y_getI 25 rfl (pc2 := 49) rfl fl_gh_85 ly_re (by decide) rfl ?_
      refine Y_top ((uw_ne (by omega)).trans (hQ hno).1.1) ?_
      refine Y_iconst 26 rfl (pc2 := 50) rfl (v := nI 2) (by decide) ?_
      refine Y_icmp_ltn 27 rfl (pc2 := 53) rfl (tgt := 65) (by decide) (by omega) (by omega) (fun h50 => ?_) (fun h50 => ?_)
      · refine Y_ldc 33 rfl (pc2 := 67) rfl kc_gh_88 ?_
        refine Y_iret 34 rfl rfl rfl ⟨rfl, ?_⟩
        exact ⟨by unfold sp_tune; rw [cI_t ⟨c, hc, rfl⟩, hno]; show _ = some (Value.int (cI _ _ _)); rw [cI_f (by omega)]; rfl, by unfold st_tune; rw [cI_f (fun e => by have z := e.2.2; omega)]; exact RC_trim hm1, fun a ha => hfr a (by omega)⟩
      · refine Y_aload_n 28 rfl (pc2 := 54) rfl rfl ?_
        refine Y_getR 29 rfl (pc2 := 57) rfl fl_gh_19 ly_gh (by decide) rfl rfl (by omega) ?_
        refine Y_getI 30 rfl (pc2 := 60) rfl fl_gh_85 ly_re (by decide) rfl ?_
        refine Y_top ((uw_ne (by omega)).trans (hQ hno).1.1) ?_
        refine Y_bipush 31 rfl (pc2 := 62) rfl (v := nI 32) (by decide) ?_
        refine Y_icmp_len 32 rfl (pc2 := 65) rfl (tgt := 68) (by decide) (by omega) (by omega) (fun h62 => ?_) (fun h62 => ?_)
        · refine Y_aload_n 35 rfl (pc2 := 69) rfl rfl ?_
          refine Y_getR 36 rfl (pc2 := 72) rfl fl_gh_25 ly_gh (by decide) rfl rfl (by omega) ?_
          refine Y_iload_n 37 rfl (pc2 := 73) rfl rfl ?_
          refine Y_aald 38 rfl (pc2 := 74) rfl ly_ghC (by decide) (fun _ => rfl) rfl (by omega) (by decide) (ly_ghC_at (by omega)) (by omega) ?_
          refine Y_aload_n 39 rfl (pc2 := 75) rfl rfl ?_
          refine Y_getR 40 rfl (pc2 := 78) rfl fl_gh_19 ly_gh (by decide) rfl rfl (by omega) ?_
          refine Y_cV 41 rfl (pc2 := 81) rfl ok_ci_become lk_gh_89 vi_ci_become (ly_ci (by omega)) rfl (by decide) rfl (as := [.ref _]) (rest := []) rfl rfl (T_ci_become hc (RQ_f2 (hQ hno).1) (by omega) (by omega) qok_rT) ?_
          rintro _ m3 ⟨rfl, hb1, hb2, hb3, hb4, hb5, hb6⟩
          change Y _ _ _ _ _ [] _ _
          refine Y_aload_n 42 rfl (pc2 := 82) rfl rfl ?_
          refine Y_getR 43 rfl (pc2 := 85) rfl fl_gh_19 ly_gh (by decide) rfl rfl (by omega) ?_
          refine Y_getI 44 rfl (pc2 := 88) rfl fl_gh_85 ly_re (by decide) rfl ?_
          refine Y_top ((congrFun (hb6 3 (by omega)) 2).trans ((uw_ne (by omega)).trans (hQ hno).1.1)) ?_
          refine Y_iret 45 rfl rfl rfl ⟨rfl, ?_⟩
          refine ⟨by unfold sp_tune; rw [cI_t ⟨c, hc, rfl⟩, hno]; show _ = some (Value.int (cI _ _ _)); rw [cI_t (by omega)], ?_, fun a ha => (hb6 a (by omega)).trans (hfr a (by omega))⟩
          unfold st_tune
          rw [cI_t ⟨⟨c, hc, rfl⟩, hno, by omega, by omega⟩, nv_nI (by omega)]
          exact RC_tune h w hc (by omega) (by omega) hb1 (fun b hb => (hb2 b hb).trans (by rw [hfr _ (by omega)])) (fun b hb => (hb3 b hb).trans (by rw [hfr _ (by omega)])) hb4 hb5 ((congrFun (hb6 1 (by omega)) 1).trans uw_same) (fun a ha ha2 => (hb6 a ha).trans (hfr a ha2))
        · refine Y_ldc 33 rfl (pc2 := 67) rfl kc_gh_88 ?_
          refine Y_iret 34 rfl rfl rfl ⟨rfl, ?_⟩
          exact ⟨by unfold sp_tune; rw [cI_t ⟨c, hc, rfl⟩, hno]; show _ = some (Value.int (cI _ _ _)); rw [cI_f (by omega)]; rfl, by unfold st_tune; rw [cI_f (fun e => by have z := e.2.2; omega)]; exact RC_trim hm1, fun a ha => hfr a (by omega)⟩
    · refine Y_bipush 19 rfl (pc2 := 39) rfl (v := -100) (by decide) ?_
      refine Y_iload_n 20 rfl (pc2 := 40) rfl rfl ?_
      refine Y_isub 21 rfl (pc2 := 41) rfl ?_
      refine Y_iret 22 rfl rfl rfl ⟨rfl, ?_⟩
      cases hr : (rT S).1 with
      | none => exact absurd (by rw [hr]; rfl) h34
      | some p => exact ⟨by unfold sp_tune; rw [cI_t ⟨c, hc, rfl⟩, hr]; rfl, by unfold st_tune; rw [cI_f (fun e => by have z := e.2.1; rw [hr] at z; cases z)]; exact RC_trim hm1, fun a ha => hfr a (by omega)⟩
  · refine Y_ldc 14 rfl (pc2 := 30) rfl kc_gh_75 ?_
    refine Y_iret 15 rfl rfl rfl ⟨rfl, ?_⟩
    exact ⟨by unfold sp_tune; rw [cI_f h25]; rfl, (by unfold st_tune; rw [cI_f (fun e => h25 e.1)]; exact RC_trim hm1), fun a ha => hfr a (by omega)⟩
