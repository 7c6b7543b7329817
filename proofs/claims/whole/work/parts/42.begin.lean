/-! the start: class and reference agree -/
set_option maxHeartbeats 1000000 in
theorem z_n {k : Nat} : z_ k = nI 0 := nI_0.symm
set_option maxHeartbeats 1000000 in
theorem nv_0 : nv (nI 0) = 0 := nv_nI (by decide)
set_option maxHeartbeats 1000000 in
theorem WF_0 {m : Mm} (h2 : rws m 153 RMd) : WF m := by
  have e153 : m 153 = z_ := rws_get RMd 153 h2 0 _ rfl
  have e154 : m 154 = flr z_ 4 (nI 8) := rws_get RMd 153 h2 1 _ rfl
  have e155 : m 155 = flr z_ 128 (-1) := rws_get RMd 153 h2 2 _ rfl
  have e156 : m 156 = flr z_ 128 (-1) := rws_get RMd 153 h2 3 _ rfl
  have e157 : m 157 = flr z_ 768 (-9) := rws_get RMd 153 h2 4 _ rfl
  have e158 : m 158 = z_ := rws_get RMd 153 h2 5 _ rfl
  have e159 : m 159 = z_ := rws_get RMd 153 h2 6 _ rfl
  have e160 : m 160 = z_ := rws_get RMd 153 h2 7 _ rfl
  have e161 : m 161 = z_ := rws_get RMd 153 h2 8 _ rfl
  have e162 : m 162 = z_ := rws_get RMd 153 h2 9 _ rfl
  have e163 : m 163 = flr z_ 144 (-1) := rws_get RMd 153 h2 10 _ rfl
  have e164 : m 164 = z_ := rws_get RMd 153 h2 11 _ rfl
  have e165 : m 165 = ua_ (ua_ z_ 0 (-1)) 1 (-1) := rws_get RMd 153 h2 12 _ rfl
  have e166 : m 166 = z_ := rws_get RMd 153 h2 13 _ rfl
  refine ⟨fun c hc => ?_, fun i hi => ?_, fun i hi => ?_, fun i hi => ?_, fun i hi => ?_, fun l k hl hk => ?_, ?_, fun p hp => ?_, fun p hp => ?_, fun p hp => ?_, fun p hp => ?_, fun r hr => ?_, ?_, fun i hi => ?_, fun s hs => ?_, fun i hi => ?_, ?_⟩
  · unfold bt
    rw [e154, flr_at hc, nv_nI (by decide)]; exact ⟨rfl, by decide, by decide⟩
  · rw [e155, flr_at hi]; exact Or.inl rfl
  · rw [e156, flr_at hi]; exact Or.inl rfl
  · rw [e157, flr_at hi]; exact Or.inl rfl
  · rw [e158, z_n]; exact ⟨0, by decide, rfl⟩
  · unfold us
    rw [e159, z_n, nv_0]; exact ⟨rfl, by decide⟩
  · unfold pn
    rw [e153, z_n, nv_0]; exact ⟨rfl, by decide⟩
  · unfold pC
    rw [e160, z_n, nv_0]; exact ⟨rfl, by decide⟩
  · unfold pT
    rw [e161, z_n, nv_0]; exact ⟨rfl, by decide⟩
  · unfold pn at hp
    rw [e153, z_n, nv_0] at hp
    exact absurd hp (Nat.not_lt_zero p)
  · rw [e162, z_n]; exact Or.inr ⟨0, by decide, rfl⟩
  · rw [e163, flr_at hr]; exact Or.inl rfl
  · unfold tpd
    rw [e153, z_n, nv_0]; exact ⟨rfl, by decide⟩
  · rw [e164, z_n]; exact ⟨0, by decide, rfl⟩
  · rw [e165]
    have hs2 : s = 0 ∨ s = 1 := by omega
    rcases hs2 with rfl | rfl <;> exact Or.inl rfl
  · rw [e166, z_n]; decide
  · unfold sigs
    rw [cnt_0 144 (fun i hi z => z (by rw [e163, flr_at hi]; decide))]; decide

set_option maxHeartbeats 1000000 in
theorem RC_0 {m : Mm} (h : rws m 0 RG18) (h2 : rws m 153 RMd) : RC m m := by
  have e153 : m 153 = z_ := rws_get RMd 153 h2 0 _ rfl
  have e154 : m 154 = flr z_ 4 (nI 8) := rws_get RMd 153 h2 1 _ rfl
  have e155 : m 155 = flr z_ 128 (-1) := rws_get RMd 153 h2 2 _ rfl
  have e156 : m 156 = flr z_ 128 (-1) := rws_get RMd 153 h2 3 _ rfl
  have e157 : m 157 = flr z_ 768 (-9) := rws_get RMd 153 h2 4 _ rfl
  have e158 : m 158 = z_ := rws_get RMd 153 h2 5 _ rfl
  have e159 : m 159 = z_ := rws_get RMd 153 h2 6 _ rfl
  have e160 : m 160 = z_ := rws_get RMd 153 h2 7 _ rfl
  have e161 : m 161 = z_ := rws_get RMd 153 h2 8 _ rfl
  have e162 : m 162 = z_ := rws_get RMd 153 h2 9 _ rfl
  have e163 : m 163 = flr z_ 144 (-1) := rws_get RMd 153 h2 10 _ rfl
  have e164 : m 164 = z_ := rws_get RMd 153 h2 11 _ rfl
  have e165 : m 165 = ua_ (ua_ z_ 0 (-1)) 1 (-1) := rws_get RMd 153 h2 12 _ rfl
  have e166 : m 166 = z_ := rws_get RMd 153 h2 13 _ rfl
  have r21 : ∀ c, c < 4 → m (21 + 5 * c) = ua_ z_ 4 (nI 8) := by
    intro c hv
    have q_c : c = 0 ∨ c = 1 ∨ c = 2 ∨ c = 3 := by omega
    rcases q_c with rfl | rfl | rfl | rfl
    · exact rws_get RG18 0 h 21 _ rfl
    · exact rws_get RG18 0 h 26 _ rfl
    · exact rws_get RG18 0 h 31 _ rfl
    · exact rws_get RG18 0 h 36 _ rfl
  have r22 : ∀ c, c < 4 → m (22 + 5 * c) = flr z_ 32 NONE_ := by
    intro c hv
    have q_c : c = 0 ∨ c = 1 ∨ c = 2 ∨ c = 3 := by omega
    rcases q_c with rfl | rfl | rfl | rfl
    · exact rws_get RG18 0 h 22 _ rfl
    · exact rws_get RG18 0 h 27 _ rfl
    · exact rws_get RG18 0 h 32 _ rfl
    · exact rws_get RG18 0 h 37 _ rfl
  have r23 : ∀ c, c < 4 → m (23 + 5 * c) = flr z_ 32 NONE_ := by
    intro c hv
    have q_c : c = 0 ∨ c = 1 ∨ c = 2 ∨ c = 3 := by omega
    rcases q_c with rfl | rfl | rfl | rfl
    · exact rws_get RG18 0 h 23 _ rfl
    · exact rws_get RG18 0 h 28 _ rfl
    · exact rws_get RG18 0 h 33 _ rfl
    · exact rws_get RG18 0 h 38 _ rfl
  have r24 : ∀ c, c < 4 → m (24 + 5 * c) = z_ := by
    intro c hv
    have q_c : c = 0 ∨ c = 1 ∨ c = 2 ∨ c = 3 := by omega
    rcases q_c with rfl | rfl | rfl | rfl
    · exact rws_get RG18 0 h 24 _ rfl
    · exact rws_get RG18 0 h 29 _ rfl
    · exact rws_get RG18 0 h 34 _ rfl
    · exact rws_get RG18 0 h 39 _ rfl
  have r25 : ∀ c, c < 4 → m (25 + 5 * c) = z_ := by
    intro c hv
    have q_c : c = 0 ∨ c = 1 ∨ c = 2 ∨ c = 3 := by omega
    rcases q_c with rfl | rfl | rfl | rfl
    · exact rws_get RG18 0 h 25 _ rfl
    · exact rws_get RG18 0 h 30 _ rfl
    · exact rws_get RG18 0 h 35 _ rfl
    · exact rws_get RG18 0 h 40 _ rfl
  have r43 : ∀ l, l < 4 → m (43 + 27 * l) = z_ := by
    intro l hv
    have q_l : l = 0 ∨ l = 1 ∨ l = 2 ∨ l = 3 := by omega
    rcases q_l with rfl | rfl | rfl | rfl
    · exact rws_get RG18 0 h 43 _ rfl
    · exact rws_get RG18 0 h 70 _ rfl
    · exact rws_get RG18 0 h 97 _ rfl
    · exact rws_get RG18 0 h 124 _ rfl
  have r149 : ∀ s, s < 2 → m (149 + 2 * s) = ua_ z_ 1 (-1) := by
    intro s hv
    have q_s : s = 0 ∨ s = 1 := by omega
    rcases q_s with rfl | rfl
    · exact rws_get RG18 0 h 149 _ rfl
    · exact rws_get RG18 0 h 151 _ rfl
  have f9 : m 9 = z_ := rws_get RG18 0 h 9 _ rfl
  have f10 : m 10 = z_ := rws_get RG18 0 h 10 _ rfl
  have f11 : m 11 = z_ := rws_get RG18 0 h 11 _ rfl
  have f12 : m 12 = flr z_ 144 NONE_ := rws_get RG18 0 h 12 _ rfl
  have f2 : m 2 = z_ := rws_get RG18 0 h 2 _ rfl
  have f8 : m 8 = ua_ (ua_ z_ 4 (nI 0)) 5 (nI 0) := rws_get RG18 0 h 8 _ rfl
  have f1 : m 1 = ua_ z_ 1 (nI 0) := rws_get RG18 0 h 1 _ rfl
  have g41 : ∀ l, l < 4 → m (41 + 27 * l) 0 = nI (2 ^ (l + 1)) := by
    intro l hv
    have q_l : l = 0 ∨ l = 1 ∨ l = 2 ∨ l = 3 := by omega
    rcases q_l with rfl | rfl | rfl | rfl
    · rw [show m 41 = ua_ z_ 0 (nI 2) from rws_get RG18 0 h 41 _ rfl]; rfl
    · rw [show m 68 = ua_ z_ 0 (nI 4) from rws_get RG18 0 h 68 _ rfl]; rfl
    · rw [show m 95 = ua_ z_ 0 (nI 8) from rws_get RG18 0 h 95 _ rfl]; rfl
    · rw [show m 122 = ua_ z_ 0 (nI 16) from rws_get RG18 0 h 122 _ rfl]; rfl
  have g45 : ∀ l f g s, l < 4 → f < 6 → g < 2 → s < 2 ^ (l + 1) → m (45 + 27 * l + 4 * f + g) s = NONE_ := by
    intro l f g s hl hf hg hs
    have q_l : l = 0 ∨ l = 1 ∨ l = 2 ∨ l = 3 := by omega
    have q_f : f = 0 ∨ f = 1 ∨ f = 2 ∨ f = 3 ∨ f = 4 ∨ f = 5 := by omega
    have q_g : g = 0 ∨ g = 1 := by omega
    rcases q_l with rfl | rfl | rfl | rfl
    · rcases q_f with rfl | rfl | rfl | rfl | rfl | rfl
      · rcases q_g with rfl | rfl
        · exact (congrFun (rws_get RG18 0 h 45 (flr z_ 2 NONE_) rfl) s).trans (flr_at hs)
        · exact (congrFun (rws_get RG18 0 h 46 (flr z_ 2 NONE_) rfl) s).trans (flr_at hs)
      · rcases q_g with rfl | rfl
        · exact (congrFun (rws_get RG18 0 h 49 (flr z_ 2 NONE_) rfl) s).trans (flr_at hs)
        · exact (congrFun (rws_get RG18 0 h 50 (flr z_ 2 NONE_) rfl) s).trans (flr_at hs)
      · rcases q_g with rfl | rfl
        · exact (congrFun (rws_get RG18 0 h 53 (flr z_ 2 NONE_) rfl) s).trans (flr_at hs)
        · exact (congrFun (rws_get RG18 0 h 54 (flr z_ 2 NONE_) rfl) s).trans (flr_at hs)
      · rcases q_g with rfl | rfl
        · exact (congrFun (rws_get RG18 0 h 57 (flr z_ 2 NONE_) rfl) s).trans (flr_at hs)
        · exact (congrFun (rws_get RG18 0 h 58 (flr z_ 2 NONE_) rfl) s).trans (flr_at hs)
      · rcases q_g with rfl | rfl
        · exact (congrFun (rws_get RG18 0 h 61 (flr z_ 2 NONE_) rfl) s).trans (flr_at hs)
        · exact (congrFun (rws_get RG18 0 h 62 (flr z_ 2 NONE_) rfl) s).trans (flr_at hs)
      · rcases q_g with rfl | rfl
        · exact (congrFun (rws_get RG18 0 h 65 (flr z_ 2 NONE_) rfl) s).trans (flr_at hs)
        · exact (congrFun (rws_get RG18 0 h 66 (flr z_ 2 NONE_) rfl) s).trans (flr_at hs)
    · rcases q_f with rfl | rfl | rfl | rfl | rfl | rfl
      · rcases q_g with rfl | rfl
        · exact (congrFun (rws_get RG18 0 h 72 (flr z_ 4 NONE_) rfl) s).trans (flr_at hs)
        · exact (congrFun (rws_get RG18 0 h 73 (flr z_ 4 NONE_) rfl) s).trans (flr_at hs)
      · rcases q_g with rfl | rfl
        · exact (congrFun (rws_get RG18 0 h 76 (flr z_ 4 NONE_) rfl) s).trans (flr_at hs)
        · exact (congrFun (rws_get RG18 0 h 77 (flr z_ 4 NONE_) rfl) s).trans (flr_at hs)
      · rcases q_g with rfl | rfl
        · exact (congrFun (rws_get RG18 0 h 80 (flr z_ 4 NONE_) rfl) s).trans (flr_at hs)
        · exact (congrFun (rws_get RG18 0 h 81 (flr z_ 4 NONE_) rfl) s).trans (flr_at hs)
      · rcases q_g with rfl | rfl
        · exact (congrFun (rws_get RG18 0 h 84 (flr z_ 4 NONE_) rfl) s).trans (flr_at hs)
        · exact (congrFun (rws_get RG18 0 h 85 (flr z_ 4 NONE_) rfl) s).trans (flr_at hs)
      · rcases q_g with rfl | rfl
        · exact (congrFun (rws_get RG18 0 h 88 (flr z_ 4 NONE_) rfl) s).trans (flr_at hs)
        · exact (congrFun (rws_get RG18 0 h 89 (flr z_ 4 NONE_) rfl) s).trans (flr_at hs)
      · rcases q_g with rfl | rfl
        · exact (congrFun (rws_get RG18 0 h 92 (flr z_ 4 NONE_) rfl) s).trans (flr_at hs)
        · exact (congrFun (rws_get RG18 0 h 93 (flr z_ 4 NONE_) rfl) s).trans (flr_at hs)
    · rcases q_f with rfl | rfl | rfl | rfl | rfl | rfl
      · rcases q_g with rfl | rfl
        · exact (congrFun (rws_get RG18 0 h 99 (flr z_ 8 NONE_) rfl) s).trans (flr_at hs)
        · exact (congrFun (rws_get RG18 0 h 100 (flr z_ 8 NONE_) rfl) s).trans (flr_at hs)
      · rcases q_g with rfl | rfl
        · exact (congrFun (rws_get RG18 0 h 103 (flr z_ 8 NONE_) rfl) s).trans (flr_at hs)
        · exact (congrFun (rws_get RG18 0 h 104 (flr z_ 8 NONE_) rfl) s).trans (flr_at hs)
      · rcases q_g with rfl | rfl
        · exact (congrFun (rws_get RG18 0 h 107 (flr z_ 8 NONE_) rfl) s).trans (flr_at hs)
        · exact (congrFun (rws_get RG18 0 h 108 (flr z_ 8 NONE_) rfl) s).trans (flr_at hs)
      · rcases q_g with rfl | rfl
        · exact (congrFun (rws_get RG18 0 h 111 (flr z_ 8 NONE_) rfl) s).trans (flr_at hs)
        · exact (congrFun (rws_get RG18 0 h 112 (flr z_ 8 NONE_) rfl) s).trans (flr_at hs)
      · rcases q_g with rfl | rfl
        · exact (congrFun (rws_get RG18 0 h 115 (flr z_ 8 NONE_) rfl) s).trans (flr_at hs)
        · exact (congrFun (rws_get RG18 0 h 116 (flr z_ 8 NONE_) rfl) s).trans (flr_at hs)
      · rcases q_g with rfl | rfl
        · exact (congrFun (rws_get RG18 0 h 119 (flr z_ 8 NONE_) rfl) s).trans (flr_at hs)
        · exact (congrFun (rws_get RG18 0 h 120 (flr z_ 8 NONE_) rfl) s).trans (flr_at hs)
    · rcases q_f with rfl | rfl | rfl | rfl | rfl | rfl
      · rcases q_g with rfl | rfl
        · exact (congrFun (rws_get RG18 0 h 126 (flr z_ 16 NONE_) rfl) s).trans (flr_at hs)
        · exact (congrFun (rws_get RG18 0 h 127 (flr z_ 16 NONE_) rfl) s).trans (flr_at hs)
      · rcases q_g with rfl | rfl
        · exact (congrFun (rws_get RG18 0 h 130 (flr z_ 16 NONE_) rfl) s).trans (flr_at hs)
        · exact (congrFun (rws_get RG18 0 h 131 (flr z_ 16 NONE_) rfl) s).trans (flr_at hs)
      · rcases q_g with rfl | rfl
        · exact (congrFun (rws_get RG18 0 h 134 (flr z_ 16 NONE_) rfl) s).trans (flr_at hs)
        · exact (congrFun (rws_get RG18 0 h 135 (flr z_ 16 NONE_) rfl) s).trans (flr_at hs)
      · rcases q_g with rfl | rfl
        · exact (congrFun (rws_get RG18 0 h 138 (flr z_ 16 NONE_) rfl) s).trans (flr_at hs)
        · exact (congrFun (rws_get RG18 0 h 139 (flr z_ 16 NONE_) rfl) s).trans (flr_at hs)
      · rcases q_g with rfl | rfl
        · exact (congrFun (rws_get RG18 0 h 142 (flr z_ 16 NONE_) rfl) s).trans (flr_at hs)
        · exact (congrFun (rws_get RG18 0 h 143 (flr z_ 16 NONE_) rfl) s).trans (flr_at hs)
      · rcases q_g with rfl | rfl
        · exact (congrFun (rws_get RG18 0 h 146 (flr z_ 16 NONE_) rfl) s).trans (flr_at hs)
        · exact (congrFun (rws_get RG18 0 h 147 (flr z_ 16 NONE_) rfl) s).trans (flr_at hs)
  have g47 : ∀ l f s, l < 4 → f < 6 → m (47 + 27 * l + 4 * f) s = z_ s := by
    intro l f s hl hf
    have q_l : l = 0 ∨ l = 1 ∨ l = 2 ∨ l = 3 := by omega
    have q_f : f = 0 ∨ f = 1 ∨ f = 2 ∨ f = 3 ∨ f = 4 ∨ f = 5 := by omega
    rcases q_l with rfl | rfl | rfl | rfl
    · rcases q_f with rfl | rfl | rfl | rfl | rfl | rfl
      · exact congrFun (rws_get RG18 0 h 47 z_ rfl) s
      · exact congrFun (rws_get RG18 0 h 51 z_ rfl) s
      · exact congrFun (rws_get RG18 0 h 55 z_ rfl) s
      · exact congrFun (rws_get RG18 0 h 59 z_ rfl) s
      · exact congrFun (rws_get RG18 0 h 63 z_ rfl) s
      · exact congrFun (rws_get RG18 0 h 67 z_ rfl) s
    · rcases q_f with rfl | rfl | rfl | rfl | rfl | rfl
      · exact congrFun (rws_get RG18 0 h 74 z_ rfl) s
      · exact congrFun (rws_get RG18 0 h 78 z_ rfl) s
      · exact congrFun (rws_get RG18 0 h 82 z_ rfl) s
      · exact congrFun (rws_get RG18 0 h 86 z_ rfl) s
      · exact congrFun (rws_get RG18 0 h 90 z_ rfl) s
      · exact congrFun (rws_get RG18 0 h 94 z_ rfl) s
    · rcases q_f with rfl | rfl | rfl | rfl | rfl | rfl
      · exact congrFun (rws_get RG18 0 h 101 z_ rfl) s
      · exact congrFun (rws_get RG18 0 h 105 z_ rfl) s
      · exact congrFun (rws_get RG18 0 h 109 z_ rfl) s
      · exact congrFun (rws_get RG18 0 h 113 z_ rfl) s
      · exact congrFun (rws_get RG18 0 h 117 z_ rfl) s
      · exact congrFun (rws_get RG18 0 h 121 z_ rfl) s
    · rcases q_f with rfl | rfl | rfl | rfl | rfl | rfl
      · exact congrFun (rws_get RG18 0 h 128 z_ rfl) s
      · exact congrFun (rws_get RG18 0 h 132 z_ rfl) s
      · exact congrFun (rws_get RG18 0 h 136 z_ rfl) s
      · exact congrFun (rws_get RG18 0 h 140 z_ rfl) s
      · exact congrFun (rws_get RG18 0 h 144 z_ rfl) s
      · exact congrFun (rws_get RG18 0 h 148 z_ rfl) s
  have hbt : ∀ c, c < 4 → bt m c = 8 := by
    intro c hc
    unfold bt
    rw [e154, flr_at hc, nv_nI (by decide)]
  have htn : ∀ c b, c < 4 → b < 8 → tone m c b = nI 0 := by
    intro c b hc hb
    have hr : ∀ i, i < 32 → rw_ m c i = -1 := fun i hi => by
      unfold rw_
      rw [e155, flr_at (by omega)]
    unfold tone toneR
    rw [ln_neg (b + 1) (fun i hi => hr i (by omega)), hbt c hc, ln_neg 8 (fun i hi => hr i (by omega))]
    rfl
  have hsg : sigs m = 0 := cnt_0 144 (fun i hi z => z (by rw [e163, flr_at hi]; decide))
  refine ⟨fun c hc => ?_, fun c b hc hb => ?_, fun c b hc hb => ?_, fun c b hc hb => ?_, fun c b hc hb => ?_, fun l hl => ?_, fun l f g s hl hf hg hs => ?_, fun l f s hl hf hs => ?_, fun l k hl hk => ?_, ?_, fun p hp => ?_, fun p hp => ?_, fun p hp => ?_, fun r hr => ?_, ?_, ?_, fun i hi => ?_, fun s hs => ?_, fun s i hs hi => ?_⟩
  · rw [r21 c hc, e154, flr_at hc]; rfl
  · rw [r22 c hc, flr_at hb, e155, flr_at (by omega)]; rfl
  · rw [r23 c hc, flr_at hb, e156, flr_at (by omega)]; rfl
  · rw [hbt c hc] at hb
    rw [r24 c hc, htn c b hc hb]; exact z_n
  · rw [hbt c hc] at hb
    unfold turn
    rw [r25 c hc, hbt c hc, htn c b hc hb, htn c _ hc (nxt_lt (by decide))]; exact z_n
  · exact g41 l hl
  · rw [g45 l f g s hl hf hg hs, e157, flr_at (by have := sz_16 hl; unfold ix; omega)]; rfl
  · rw [g47 l f s hl hf, e158]; rfl
  · rw [r43 l hl, e159]; rfl
  · rw [f8, e153]; exact nI_0
  · rw [f9, e160]
  · rw [f10, e161]
  · rw [f11, e162, z_n]; rfl
  · rw [f12, flr_at hr, e163, flr_at hr]; rfl
  · rw [f8, hsg]; rfl
  · rw [f1, e153]; exact nI_0
  · rw [f2, e164, z_n]; decide
  · rw [r149 s hs, e165]
    have hs2 : s = 0 ∨ s = 1 := by omega
    rcases hs2 with rfl | rfl <;> rfl
  · exfalso
    unfold plc at hi
    rw [e165] at hi
    have hs2 : s = 0 ∨ s = 1 := by omega
    rcases hs2 with rfl | rfl
    · rw [show nv (ua_ (ua_ z_ 0 (-1)) 1 (-1) 0) = 0 from by decide] at hi; omega
    · rw [show nv (ua_ (ua_ z_ 0 (-1)) 1 (-1) 1) = 0 from by decide] at hi; omega
