/-! the law: its loop, its beginning -/
set_option maxRecDepth 20000 in
set_option maxHeartbeats 1000000 in
theorem L_law {G : Nat × (Nat → Int32)} {cap : Nat × Nat} (hL : G.1 ≤ 3072) : ∀ i, i ≤ G.1 → ∀ m S, RC m S → RM m S → WF S → Y G M_la_law cap 18 [some (.ref 1000000), some (.ref 0), some (.ref 153), some (.int (nI i))] [] (LAY, m) (qm_ LAY (fun v _ => v = some (.int (nI 1)))) := by
  refine ind_ (fun i hi ih m S h hM w => ?_)
  have HN : i + 6 ≤ G.1 → ∀ m2 S2, RC m2 S2 → RM m2 S2 → WF S2 → Y G M_la_law cap 1076 [some (.ref 1000000), some (.ref 0), some (.ref 153), some (.int (nI i))] [] (LAY, m2) (qm_ LAY (fun v _ => v = some (.int (nI 1)))) := by
    intro h6 m2 S2 a b c
    refine Y_iinc 810 rfl (pc2 := 1079) rfl rfl (nI_inc _ 6) (ls2 := [some (.ref _), some (.ref _), some (.ref _), some (.int _)]) rfl ?_
    refine Y_goto 811 rfl (pc2 := 18) (by decide) ?_
    exact ih (i + 6) (by omega) (by omega) m2 S2 a b c
  refine Y_iload_n 10 rfl (pc2 := 19) rfl rfl ?_
  refine Y_aload_n 11 rfl (pc2 := 20) rfl rfl ?_
  refine Y_slen 12 rfl (pc2 := 21) rfl (z := 0) (by decide) (v := nI G.1) rfl ?_
  refine Y_bipush 13 rfl (pc2 := 23) rfl (v := nI 6) (by decide) ?_
  refine Y_isub 14 rfl (pc2 := 24) rfl ?_
  refine Y_icmp_gt 15 rfl (pc2 := 27) rfl (tgt := 1082) (by decide) (fun h24 => ?_) (fun h24 => ?_)
  · refine Y_iconst 812 rfl (pc2 := 1083) rfl (v := nI 1) (by decide) ?_
    refine Y_iret 813 rfl rfl rfl ⟨rfl, ?_⟩
    exact rfl
  · have hi6 := law_ge hL (by omega) h24
    refine Y_aload_n 16 rfl (pc2 := 28) rfl rfl ?_
    refine Y_iload_n 17 rfl (pc2 := 29) rfl rfl ?_
    refine Y_sald 18 rfl (pc2 := 30) rfl (z := 0) (by decide) rfl (by show _ < G.1; omega) (by show G.1 < _; omega) ?_
    refine Y_bipush 19 rfl (pc2 := 32) rfl (v := nI 31) (by decide) ?_
    refine Y_iand 20 rfl (pc2 := 33) rfl ?_
    refine Y_tsw 21 rfl (n := 24) (by decide) (by decide) rfl (by decide) (tgt := 1076) (by decide) (fun h33 => ?_) (fun j hj h33 => ?_)
    · exact HN hi6 m S h hM w
    · have hj2 : j = 0 ∨ j = 1 ∨ j = 2 ∨ j = 3 ∨ j = 4 ∨ j = 5 ∨ j = 6 ∨ j = 7 ∨ j = 8 ∨ j = 9 ∨ j = 10 ∨ j = 11 ∨ j = 12 ∨ j = 13 ∨ j = 14 ∨ j = 15 ∨ j = 16 ∨ j = 17 ∨ j = 18 ∨ j = 19 ∨ j = 20 ∨ j = 21 ∨ j = 22 ∨ j = 23 := by omega
      rcases hj2 with rfl | rfl | rfl | rfl | rfl | rfl | rfl | rfl | rfl | rfl | rfl | rfl | rfl | rfl | rfl | rfl | rfl | rfl | rfl | rfl | rfl | rfl | rfl | rfl
      · change Y _ _ _ 144 _ _ _ _
        exact LC_feed hL hi6 h hM w (HN hi6)
      · change Y _ _ _ 187 _ _ _ _
        exact LC_trim hL hi6 h hM w (HN hi6)
      · change Y _ _ _ 210 _ _ _ _
        exact LC_tune hL hi6 h hM w (HN hi6)
      · change Y _ _ _ 233 _ _ _ _
        exact LC_told hL hi6 h hM w (HN hi6)
      · change Y _ _ _ 276 _ _ _ _
        exact LC_isOf hL hi6 h hM w (HN hi6)
      · change Y _ _ _ 319 _ _ _ _
        exact LC_strike hL hi6 h hM w (HN hi6)
      · change Y _ _ _ 382 _ _ _ _
        exact LC_lay hL hi6 h hM w (HN hi6)
      · change Y _ _ _ 435 _ _ _ _
        exact LC_together hL hi6 h hM w (HN hi6)
      · change Y _ _ _ 488 _ _ _ _
        exact LC_wrong hL hi6 h hM w (HN hi6)
      · change Y _ _ _ 521 _ _ _ _
        exact LC_use hL hi6 h hM w (HN hi6)
      · change Y _ _ _ 564 _ _ _ _
        exact LC_part hL hi6 h hM w (HN hi6)
      · change Y _ _ _ 607 _ _ _ _
        exact LC_signal hL hi6 h hM w (HN hi6)
      · change Y _ _ _ 640 _ _ _ _
        exact LC_drop hL hi6 h hM w (HN hi6)
      · change Y _ _ _ 653 _ _ _ _
        exact LC_round hL hi6 h hM w (HN hi6)
      · change Y _ _ _ 686 _ _ _ _
        exact LC_plays hL hi6 h hM w (HN hi6)
      · change Y _ _ _ 739 _ _ _ _
        exact LC_damps hL hi6 h hM w (HN hi6)
      · change Y _ _ _ 792 _ _ _ _
        exact LC_strikes hL hi6 h hM w (HN hi6)
      · change Y _ _ _ 825 _ _ _ _
        exact LC_ticks hL hi6 h hM w (HN hi6)
      · change Y _ _ _ 838 _ _ _ _
        exact LC_leaps hL hi6 h hM w (HN hi6)
      · change Y _ _ _ 881 _ _ _ _
        exact LC_choice hL hi6 h hM w (HN hi6)
      · change Y _ _ _ 914 _ _ _ _
        exact LC_sheet hL hi6 h hM w (HN hi6)
      · change Y _ _ _ 947 _ _ _ _
        exact LC_mark hL hi6 h hM w (HN hi6)
      · change Y _ _ _ 990 _ _ _ _
        exact LC_copy hL hi6 h hM w (HN hi6)
      · change Y _ _ _ 1053 _ _ _ _
        exact LC_count hL hi6 h hM w (HN hi6)

set_option maxHeartbeats 1000000 in
theorem LAY_is : ([] ++ ZG36 0) ++ [(10, 24, [some (153 + 1), some (153 + 2), some (153 + 3), some (153 + 4), some (153 + 5), some (153 + 6), none, some (153 + 7), some (153 + 8), some (153 + 9), some (153 + 10), some (153 + 11), none, some (153 + 12), some (153 + 13), none, none, some (153 + 14), some (153 + 15), none, none, none, some (153 + 16), some (153 + 17)]), (12, 4, []), (12, 128, []), (12, 128, []), (12, 768, []), (13, 384, []), (12, 12, []), (12, 16, []), (12, 16, []), (12, 16, []), (12, 144, []), (12, 64, []), (12, 2, []), (12, 32, []), (12, 32, []), (12, 32, []), (12, 3, []), (12, 16, [])] = LAY := by decide +kernel
set_option maxRecDepth 20000 in
set_option maxHeartbeats 1000000 in
theorem T_la_law {G : Nat × (Nat → Int32)} {mm : Mm} (hL : G.1 ≤ 3072) : Y G M_la_law (171, 3545) 0 (en_ M_la_law [.ref 1000000]) [] ([], mm) (qm_ LAY (fun v _ => v = some (.int (nI 1)))) := by
  change Y _ _ _ _ [some (.ref _), none, none, none] _ _ _
  refine Y_new 0 rfl (pc2 := 3) rfl nc_la_7 (by decide) (by decide) (by decide) ?_
  refine Y_dup 1 rfl (pc2 := 4) rfl rfl ?_
  refine Y_mkc (L := []) (n := 0) (C := 152) (Sz := 1716) 2 rfl (pc2 := 7) rfl ok_gh_init lk_la_9 vn_gh_init (as := []) (rest := [.ref _]) rfl (by decide) rfl rfl lnG36 slG36 (by decide) (by decide) (K_gh_init rfl (by decide) (by funext k; simp [ur_, z_])) ?_
  intro m2 hf2 hr2
  refine Y_astore_n 3 rfl (pc2 := 8) rfl (Nat.le_of_ble_eq_true rfl) (ls2 := [some (.ref _), some (.ref _), none, none]) rfl ?_
  refine Y_znew 4 rfl (pc2 := 11) rfl nc_la_10 (zl := 153) lnG36 (by decide) (by rw [slG36]; decide) (by decide) ?_
  refine Y_dup 5 rfl (pc2 := 12) rfl rfl ?_
  refine Y_mkc (L := [] ++ ZG36 0) (n := 153) (C := 17) (Sz := 1797) 6 rfl (pc2 := 15) rfl ok_mo_init lk_la_12 vn_mo_init (as := []) (rest := [.ref _]) lnG36 (by decide) rfl rfl rfl (by simp [sl_]) (by decide) (by rw [sl_app, slG36]; decide) (K_mo_init lnG36 (by decide) (by funext k; simp [ur_])) ?_
  intro m3 hf3 hr3
  refine Y_sg (σ2 := (LAY, m3)) (by rw [← LAY_is]) ?_
  refine Y_astore_n 7 rfl (pc2 := 16) rfl (Nat.le_of_ble_eq_true rfl) (ls2 := [some (.ref _), some (.ref _), some (.ref _), none]) rfl ?_
  refine Y_iconst 8 rfl (pc2 := 17) rfl (v := nI 0) (by decide) ?_
  refine Y_istore_n 9 rfl (pc2 := 18) rfl (Nat.le_of_ble_eq_true rfl) (ls2 := [some (.ref _), some (.ref _), some (.ref _), some (.int _)]) rfl ?_
  have hl : RG18.length = 153 := by decide +kernel
  have hr0 : rws m3 0 RG18 := rws_fr _ _ hr2 (fun b _ hb => by rw [hl] at hb; exact (hf3 b (by omega)).trans (ur_ne (by omega)))
  have hr1 : rws m3 153 RMd := hr3
  exact L_law hL 0 (Nat.zero_le _) m3 m3 (RC_0 hr0 hr1) ⟨fun _ _ _ => rfl, rfl, rfl⟩ (WF_0 hr1)

def lb_0 : List (Nat × Instr × Nat) := [(0, .new 7, 3), (3, .dup, 1), (4, .invokespecial 9, 3), (7, .astore_n 1, 1), (8, .new 10, 3), (11, .dup, 1), (12, .invokespecial 12, 3), (15, .astore_n 2, 1), (16, .iconst 0, 1), (17, .istore_n 3, 1), (18, .iload_n 3, 1), (19, .aload_n 0, 1), (20, .arraylength, 1), (21, .bipush 6, 2), (23, .isub, 1), (24, .if_icmp .gt 1058, 3), (27, .aload_n 0, 1), (28, .iload_n 3, 1), (29, .iaload, 1), (30, .bipush 31, 2), (32, .iand, 1), (33, .tableswitch 1043 0 23 #[111, 154, 177, 200, 243, 286, 349, 402, 455, 488, 531, 574, 607, 620, 653, 706, 759, 792, 805, 848, 881, 914, 957, 1020], 111), (144, .aload_n 1, 1), (145, .aload_n 0, 1), (146, .iload_n 3, 1), (147, .iconst 1, 1), (148, .iadd, 1), (149, .iaload, 1), (150, .aload_n 0, 1), (151, .iload_n 3, 1), (152, .iconst 2, 1), (153, .iadd, 1), (154, .iaload, 1), (155, .aload_n 0, 1), (156, .iload_n 3, 1), (157, .iconst 3, 1), (158, .iadd, 1), (159, .iaload, 1), (160, .invokevirtual 13, 3), (163, .aload_n 2, 1), (164, .aload_n 0, 1), (165, .iload_n 3, 1), (166, .iconst 1, 1), (167, .iadd, 1), (168, .iaload, 1), (169, .aload_n 0, 1), (170, .iload_n 3, 1), (171, .iconst 2, 1), (172, .iadd, 1), (173, .iaload, 1), (174, .aload_n 0, 1), (175, .iload_n 3, 1), (176, .iconst 3, 1), (177, .iadd, 1), (178, .iaload, 1), (179, .invokevirtual 17, 3), (182, .if_icmp .eq 894, 3), (185, .iconst 0, 1), (186, .ireturn, 1), (187, .aload_n 1, 1)]
set_option maxHeartbeats 1000000 in
theorem ltd_0 : ∀ q ∈ lb_0, decode code q.1 = .ok q.2 := by decide +kernel
def lb_1 : List (Nat × Instr × Nat) := [(188, .aload_n 0, 1), (189, .iload_n 3, 1), (190, .iconst 1, 1), (191, .iadd, 1), (192, .iaload, 1), (193, .invokevirtual 18, 3), (196, .aload_n 2, 1), (197, .aload_n 0, 1), (198, .iload_n 3, 1), (199, .iconst 1, 1), (200, .iadd, 1), (201, .iaload, 1), (202, .invokevirtual 22, 3), (205, .if_icmp .eq 871, 3), (208, .iconst 0, 1), (209, .ireturn, 1), (210, .aload_n 1, 1), (211, .aload_n 0, 1), (212, .iload_n 3, 1), (213, .iconst 1, 1), (214, .iadd, 1), (215, .iaload, 1), (216, .invokevirtual 23, 3), (219, .aload_n 2, 1), (220, .aload_n 0, 1), (221, .iload_n 3, 1), (222, .iconst 1, 1), (223, .iadd, 1), (224, .iaload, 1), (225, .invokevirtual 26, 3), (228, .if_icmp .eq 848, 3), (231, .iconst 0, 1), (232, .ireturn, 1), (233, .aload_n 1, 1), (234, .aload_n 0, 1), (235, .iload_n 3, 1), (236, .iconst 1, 1), (237, .iadd, 1), (238, .iaload, 1), (239, .aload_n 0, 1), (240, .iload_n 3, 1), (241, .iconst 2, 1), (242, .iadd, 1), (243, .iaload, 1), (244, .aload_n 0, 1), (245, .iload_n 3, 1), (246, .iconst 3, 1), (247, .iadd, 1), (248, .iaload, 1), (249, .invokevirtual 27, 3), (252, .aload_n 2, 1), (253, .aload_n 0, 1), (254, .iload_n 3, 1), (255, .iconst 1, 1), (256, .iadd, 1), (257, .iaload, 1), (258, .aload_n 0, 1), (259, .iload_n 3, 1), (260, .iconst 2, 1), (261, .iadd, 1)]
set_option maxHeartbeats 1000000 in
theorem ltd_1 : ∀ q ∈ lb_1, decode code q.1 = .ok q.2 := by decide +kernel
def lb_2 : List (Nat × Instr × Nat) := [(262, .iaload, 1), (263, .aload_n 0, 1), (264, .iload_n 3, 1), (265, .iconst 3, 1), (266, .iadd, 1), (267, .iaload, 1), (268, .invokevirtual 30, 3), (271, .if_icmp .eq 805, 3), (274, .iconst 0, 1), (275, .ireturn, 1), (276, .aload_n 1, 1), (277, .aload_n 0, 1), (278, .iload_n 3, 1), (279, .iconst 1, 1), (280, .iadd, 1), (281, .iaload, 1), (282, .aload_n 0, 1), (283, .iload_n 3, 1), (284, .iconst 2, 1), (285, .iadd, 1), (286, .iaload, 1), (287, .aload_n 0, 1), (288, .iload_n 3, 1), (289, .iconst 3, 1), (290, .iadd, 1), (291, .iaload, 1), (292, .invokevirtual 31, 3), (295, .aload_n 2, 1), (296, .aload_n 0, 1), (297, .iload_n 3, 1), (298, .iconst 1, 1), (299, .iadd, 1), (300, .iaload, 1), (301, .aload_n 0, 1), (302, .iload_n 3, 1), (303, .iconst 2, 1), (304, .iadd, 1), (305, .iaload, 1), (306, .aload_n 0, 1), (307, .iload_n 3, 1), (308, .iconst 3, 1), (309, .iadd, 1), (310, .iaload, 1), (311, .invokevirtual 34, 3), (314, .if_icmp .eq 762, 3), (317, .iconst 0, 1), (318, .ireturn, 1), (319, .aload_n 1, 1), (320, .aload_n 0, 1), (321, .iload_n 3, 1), (322, .iconst 1, 1), (323, .iadd, 1), (324, .iaload, 1), (325, .aload_n 0, 1), (326, .iload_n 3, 1), (327, .iconst 2, 1), (328, .iadd, 1), (329, .iaload, 1), (330, .aload_n 0, 1), (331, .iload_n 3, 1)]
set_option maxHeartbeats 1000000 in
theorem ltd_2 : ∀ q ∈ lb_2, decode code q.1 = .ok q.2 := by decide +kernel
def lb_3 : List (Nat × Instr × Nat) := [(332, .iconst 3, 1), (333, .iadd, 1), (334, .iaload, 1), (335, .aload_n 0, 1), (336, .iload_n 3, 1), (337, .iconst 4, 1), (338, .iadd, 1), (339, .iaload, 1), (340, .aload_n 0, 1), (341, .iload_n 3, 1), (342, .iconst 5, 1), (343, .iadd, 1), (344, .iaload, 1), (345, .invokevirtual 35, 3), (348, .aload_n 2, 1), (349, .aload_n 0, 1), (350, .iload_n 3, 1), (351, .iconst 1, 1), (352, .iadd, 1), (353, .iaload, 1), (354, .aload_n 0, 1), (355, .iload_n 3, 1), (356, .iconst 2, 1), (357, .iadd, 1), (358, .iaload, 1), (359, .aload_n 0, 1), (360, .iload_n 3, 1), (361, .iconst 3, 1), (362, .iadd, 1), (363, .iaload, 1), (364, .aload_n 0, 1), (365, .iload_n 3, 1), (366, .iconst 4, 1), (367, .iadd, 1), (368, .iaload, 1), (369, .aload_n 0, 1), (370, .iload_n 3, 1), (371, .iconst 5, 1), (372, .iadd, 1), (373, .iaload, 1), (374, .invokevirtual 39, 3), (377, .if_icmp .eq 699, 3), (380, .iconst 0, 1), (381, .ireturn, 1), (382, .aload_n 1, 1), (383, .aload_n 0, 1), (384, .iload_n 3, 1), (385, .iconst 1, 1), (386, .iadd, 1), (387, .iaload, 1), (388, .aload_n 0, 1), (389, .iload_n 3, 1), (390, .iconst 2, 1), (391, .iadd, 1), (392, .iaload, 1), (393, .aload_n 0, 1), (394, .iload_n 3, 1), (395, .iconst 3, 1), (396, .iadd, 1), (397, .iaload, 1)]
set_option maxHeartbeats 1000000 in
theorem ltd_3 : ∀ q ∈ lb_3, decode code q.1 = .ok q.2 := by decide +kernel
def lb_4 : List (Nat × Instr × Nat) := [(398, .aload_n 0, 1), (399, .iload_n 3, 1), (400, .iconst 4, 1), (401, .iadd, 1), (402, .iaload, 1), (403, .invokevirtual 40, 3), (406, .aload_n 2, 1), (407, .aload_n 0, 1), (408, .iload_n 3, 1), (409, .iconst 1, 1), (410, .iadd, 1), (411, .iaload, 1), (412, .aload_n 0, 1), (413, .iload_n 3, 1), (414, .iconst 2, 1), (415, .iadd, 1), (416, .iaload, 1), (417, .aload_n 0, 1), (418, .iload_n 3, 1), (419, .iconst 3, 1), (420, .iadd, 1), (421, .iaload, 1), (422, .aload_n 0, 1), (423, .iload_n 3, 1), (424, .iconst 4, 1), (425, .iadd, 1), (426, .iaload, 1), (427, .invokevirtual 44, 3), (430, .if_icmp .eq 646, 3), (433, .iconst 0, 1), (434, .ireturn, 1), (435, .aload_n 1, 1), (436, .aload_n 0, 1), (437, .iload_n 3, 1), (438, .iconst 1, 1), (439, .iadd, 1), (440, .iaload, 1), (441, .aload_n 0, 1), (442, .iload_n 3, 1), (443, .iconst 2, 1), (444, .iadd, 1), (445, .iaload, 1), (446, .aload_n 0, 1), (447, .iload_n 3, 1), (448, .iconst 3, 1), (449, .iadd, 1), (450, .iaload, 1), (451, .aload_n 0, 1), (452, .iload_n 3, 1), (453, .iconst 4, 1), (454, .iadd, 1), (455, .iaload, 1), (456, .invokevirtual 45, 3), (459, .aload_n 2, 1), (460, .aload_n 0, 1), (461, .iload_n 3, 1), (462, .iconst 1, 1), (463, .iadd, 1), (464, .iaload, 1), (465, .aload_n 0, 1)]
set_option maxHeartbeats 1000000 in
theorem ltd_4 : ∀ q ∈ lb_4, decode code q.1 = .ok q.2 := by decide +kernel
def lb_5 : List (Nat × Instr × Nat) := [(466, .iload_n 3, 1), (467, .iconst 2, 1), (468, .iadd, 1), (469, .iaload, 1), (470, .aload_n 0, 1), (471, .iload_n 3, 1), (472, .iconst 3, 1), (473, .iadd, 1), (474, .iaload, 1), (475, .aload_n 0, 1), (476, .iload_n 3, 1), (477, .iconst 4, 1), (478, .iadd, 1), (479, .iaload, 1), (480, .invokevirtual 48, 3), (483, .if_icmp .eq 593, 3), (486, .iconst 0, 1), (487, .ireturn, 1), (488, .aload_n 1, 1), (489, .aload_n 0, 1), (490, .iload_n 3, 1), (491, .iconst 1, 1), (492, .iadd, 1), (493, .iaload, 1), (494, .aload_n 0, 1), (495, .iload_n 3, 1), (496, .iconst 2, 1), (497, .iadd, 1), (498, .iaload, 1), (499, .invokevirtual 49, 3), (502, .aload_n 2, 1), (503, .aload_n 0, 1), (504, .iload_n 3, 1), (505, .iconst 1, 1), (506, .iadd, 1), (507, .iaload, 1), (508, .aload_n 0, 1), (509, .iload_n 3, 1), (510, .iconst 2, 1), (511, .iadd, 1), (512, .iaload, 1), (513, .invokevirtual 53, 3), (516, .if_icmp .eq 560, 3), (519, .iconst 0, 1), (520, .ireturn, 1), (521, .aload_n 1, 1), (522, .aload_n 0, 1), (523, .iload_n 3, 1), (524, .iconst 1, 1), (525, .iadd, 1), (526, .iaload, 1), (527, .aload_n 0, 1), (528, .iload_n 3, 1), (529, .iconst 2, 1), (530, .iadd, 1), (531, .iaload, 1), (532, .aload_n 0, 1), (533, .iload_n 3, 1), (534, .iconst 3, 1), (535, .iadd, 1)]
set_option maxHeartbeats 1000000 in
theorem ltd_5 : ∀ q ∈ lb_5, decode code q.1 = .ok q.2 := by decide +kernel
def lb_6 : List (Nat × Instr × Nat) := [(536, .iaload, 1), (537, .invokevirtual 54, 3), (540, .aload_n 2, 1), (541, .aload_n 0, 1), (542, .iload_n 3, 1), (543, .iconst 1, 1), (544, .iadd, 1), (545, .iaload, 1), (546, .aload_n 0, 1), (547, .iload_n 3, 1), (548, .iconst 2, 1), (549, .iadd, 1), (550, .iaload, 1), (551, .aload_n 0, 1), (552, .iload_n 3, 1), (553, .iconst 3, 1), (554, .iadd, 1), (555, .iaload, 1), (556, .invokevirtual 57, 3), (559, .if_icmp .eq 517, 3), (562, .iconst 0, 1), (563, .ireturn, 1), (564, .aload_n 1, 1), (565, .aload_n 0, 1), (566, .iload_n 3, 1), (567, .iconst 1, 1), (568, .iadd, 1), (569, .iaload, 1), (570, .aload_n 0, 1), (571, .iload_n 3, 1), (572, .iconst 2, 1), (573, .iadd, 1), (574, .iaload, 1), (575, .aload_n 0, 1), (576, .iload_n 3, 1), (577, .iconst 3, 1), (578, .iadd, 1), (579, .iaload, 1), (580, .invokevirtual 58, 3), (583, .aload_n 2, 1), (584, .aload_n 0, 1), (585, .iload_n 3, 1), (586, .iconst 1, 1), (587, .iadd, 1), (588, .iaload, 1), (589, .aload_n 0, 1), (590, .iload_n 3, 1), (591, .iconst 2, 1), (592, .iadd, 1), (593, .iaload, 1), (594, .aload_n 0, 1), (595, .iload_n 3, 1), (596, .iconst 3, 1), (597, .iadd, 1), (598, .iaload, 1), (599, .invokevirtual 61, 3), (602, .if_icmp .eq 474, 3), (605, .iconst 0, 1), (606, .ireturn, 1), (607, .aload_n 1, 1)]
set_option maxHeartbeats 1000000 in
theorem ltd_6 : ∀ q ∈ lb_6, decode code q.1 = .ok q.2 := by decide +kernel
def lb_7 : List (Nat × Instr × Nat) := [(608, .aload_n 0, 1), (609, .iload_n 3, 1), (610, .iconst 1, 1), (611, .iadd, 1), (612, .iaload, 1), (613, .aload_n 0, 1), (614, .iload_n 3, 1), (615, .iconst 2, 1), (616, .iadd, 1), (617, .iaload, 1), (618, .invokevirtual 62, 3), (621, .aload_n 2, 1), (622, .aload_n 0, 1), (623, .iload_n 3, 1), (624, .iconst 1, 1), (625, .iadd, 1), (626, .iaload, 1), (627, .aload_n 0, 1), (628, .iload_n 3, 1), (629, .iconst 2, 1), (630, .iadd, 1), (631, .iaload, 1), (632, .invokevirtual 65, 3), (635, .if_icmp .eq 441, 3), (638, .iconst 0, 1), (639, .ireturn, 1), (640, .aload_n 1, 1), (641, .invokevirtual 66, 3), (644, .aload_n 2, 1), (645, .invokevirtual 70, 3), (648, .if_icmp .eq 428, 3), (651, .iconst 0, 1), (652, .ireturn, 1), (653, .aload_n 1, 1), (654, .aload_n 0, 1), (655, .iload_n 3, 1), (656, .iconst 1, 1), (657, .iadd, 1), (658, .iaload, 1), (659, .aload_n 0, 1), (660, .iload_n 3, 1), (661, .iconst 2, 1), (662, .iadd, 1), (663, .iaload, 1), (664, .invokevirtual 71, 3), (667, .aload_n 2, 1), (668, .aload_n 0, 1), (669, .iload_n 3, 1), (670, .iconst 1, 1), (671, .iadd, 1), (672, .iaload, 1), (673, .aload_n 0, 1), (674, .iload_n 3, 1), (675, .iconst 2, 1), (676, .iadd, 1), (677, .iaload, 1), (678, .invokevirtual 74, 3), (681, .if_icmp .eq 395, 3), (684, .iconst 0, 1), (685, .ireturn, 1)]
set_option maxHeartbeats 1000000 in
theorem ltd_7 : ∀ q ∈ lb_7, decode code q.1 = .ok q.2 := by decide +kernel
def lb_8 : List (Nat × Instr × Nat) := [(686, .aload_n 1, 1), (687, .aload_n 0, 1), (688, .iload_n 3, 1), (689, .iconst 1, 1), (690, .iadd, 1), (691, .iaload, 1), (692, .aload_n 0, 1), (693, .iload_n 3, 1), (694, .iconst 2, 1), (695, .iadd, 1), (696, .iaload, 1), (697, .aload_n 0, 1), (698, .iload_n 3, 1), (699, .iconst 3, 1), (700, .iadd, 1), (701, .iaload, 1), (702, .aload_n 0, 1), (703, .iload_n 3, 1), (704, .iconst 4, 1), (705, .iadd, 1), (706, .iaload, 1), (707, .invokevirtual 75, 3), (710, .aload_n 2, 1), (711, .aload_n 0, 1), (712, .iload_n 3, 1), (713, .iconst 1, 1), (714, .iadd, 1), (715, .iaload, 1), (716, .aload_n 0, 1), (717, .iload_n 3, 1), (718, .iconst 2, 1), (719, .iadd, 1), (720, .iaload, 1), (721, .aload_n 0, 1), (722, .iload_n 3, 1), (723, .iconst 3, 1), (724, .iadd, 1), (725, .iaload, 1), (726, .aload_n 0, 1), (727, .iload_n 3, 1), (728, .iconst 4, 1), (729, .iadd, 1), (730, .iaload, 1), (731, .invokevirtual 78, 3), (734, .if_icmp .eq 342, 3), (737, .iconst 0, 1), (738, .ireturn, 1), (739, .aload_n 1, 1), (740, .aload_n 0, 1), (741, .iload_n 3, 1), (742, .iconst 1, 1), (743, .iadd, 1), (744, .iaload, 1), (745, .aload_n 0, 1), (746, .iload_n 3, 1), (747, .iconst 2, 1), (748, .iadd, 1), (749, .iaload, 1), (750, .aload_n 0, 1), (751, .iload_n 3, 1)]
set_option maxHeartbeats 1000000 in
theorem ltd_8 : ∀ q ∈ lb_8, decode code q.1 = .ok q.2 := by decide +kernel
def lb_9 : List (Nat × Instr × Nat) := [(752, .iconst 3, 1), (753, .iadd, 1), (754, .iaload, 1), (755, .aload_n 0, 1), (756, .iload_n 3, 1), (757, .iconst 4, 1), (758, .iadd, 1), (759, .iaload, 1), (760, .invokevirtual 79, 3), (763, .aload_n 2, 1), (764, .aload_n 0, 1), (765, .iload_n 3, 1), (766, .iconst 1, 1), (767, .iadd, 1), (768, .iaload, 1), (769, .aload_n 0, 1), (770, .iload_n 3, 1), (771, .iconst 2, 1), (772, .iadd, 1), (773, .iaload, 1), (774, .aload_n 0, 1), (775, .iload_n 3, 1), (776, .iconst 3, 1), (777, .iadd, 1), (778, .iaload, 1), (779, .aload_n 0, 1), (780, .iload_n 3, 1), (781, .iconst 4, 1), (782, .iadd, 1), (783, .iaload, 1), (784, .invokevirtual 82, 3), (787, .if_icmp .eq 289, 3), (790, .iconst 0, 1), (791, .ireturn, 1), (792, .aload_n 1, 1), (793, .aload_n 0, 1), (794, .iload_n 3, 1), (795, .iconst 1, 1), (796, .iadd, 1), (797, .iaload, 1), (798, .aload_n 0, 1), (799, .iload_n 3, 1), (800, .iconst 2, 1), (801, .iadd, 1), (802, .iaload, 1), (803, .invokevirtual 83, 3), (806, .aload_n 2, 1), (807, .aload_n 0, 1), (808, .iload_n 3, 1), (809, .iconst 1, 1), (810, .iadd, 1), (811, .iaload, 1), (812, .aload_n 0, 1), (813, .iload_n 3, 1), (814, .iconst 2, 1), (815, .iadd, 1), (816, .iaload, 1), (817, .invokevirtual 86, 3), (820, .if_icmp .eq 256, 3), (823, .iconst 0, 1)]
set_option maxHeartbeats 1000000 in
theorem ltd_9 : ∀ q ∈ lb_9, decode code q.1 = .ok q.2 := by decide +kernel
def lb_10 : List (Nat × Instr × Nat) := [(824, .ireturn, 1), (825, .aload_n 1, 1), (826, .invokevirtual 87, 3), (829, .aload_n 2, 1), (830, .invokevirtual 90, 3), (833, .if_icmp .eq 243, 3), (836, .iconst 0, 1), (837, .ireturn, 1), (838, .aload_n 1, 1), (839, .aload_n 0, 1), (840, .iload_n 3, 1), (841, .iconst 1, 1), (842, .iadd, 1), (843, .iaload, 1), (844, .aload_n 0, 1), (845, .iload_n 3, 1), (846, .iconst 2, 1), (847, .iadd, 1), (848, .iaload, 1), (849, .aload_n 0, 1), (850, .iload_n 3, 1), (851, .iconst 3, 1), (852, .iadd, 1), (853, .iaload, 1), (854, .invokevirtual 91, 3), (857, .aload_n 2, 1), (858, .aload_n 0, 1), (859, .iload_n 3, 1), (860, .iconst 1, 1), (861, .iadd, 1), (862, .iaload, 1), (863, .aload_n 0, 1), (864, .iload_n 3, 1), (865, .iconst 2, 1), (866, .iadd, 1), (867, .iaload, 1), (868, .aload_n 0, 1), (869, .iload_n 3, 1), (870, .iconst 3, 1), (871, .iadd, 1), (872, .iaload, 1), (873, .invokevirtual 94, 3), (876, .if_icmp .eq 200, 3), (879, .iconst 0, 1), (880, .ireturn, 1), (881, .aload_n 1, 1), (882, .aload_n 0, 1), (883, .iload_n 3, 1), (884, .iconst 1, 1), (885, .iadd, 1), (886, .iaload, 1), (887, .aload_n 0, 1), (888, .iload_n 3, 1), (889, .iconst 2, 1), (890, .iadd, 1), (891, .iaload, 1), (892, .invokevirtual 95, 3), (895, .aload_n 2, 1), (896, .aload_n 0, 1), (897, .iload_n 3, 1)]
set_option maxHeartbeats 1000000 in
theorem ltd_10 : ∀ q ∈ lb_10, decode code q.1 = .ok q.2 := by decide +kernel
def lb_11 : List (Nat × Instr × Nat) := [(898, .iconst 1, 1), (899, .iadd, 1), (900, .iaload, 1), (901, .aload_n 0, 1), (902, .iload_n 3, 1), (903, .iconst 2, 1), (904, .iadd, 1), (905, .iaload, 1), (906, .invokevirtual 98, 3), (909, .if_icmp .eq 167, 3), (912, .iconst 0, 1), (913, .ireturn, 1), (914, .aload_n 1, 1), (915, .aload_n 0, 1), (916, .iload_n 3, 1), (917, .iconst 1, 1), (918, .iadd, 1), (919, .iaload, 1), (920, .aload_n 0, 1), (921, .iload_n 3, 1), (922, .iconst 2, 1), (923, .iadd, 1), (924, .iaload, 1), (925, .invokevirtual 99, 3), (928, .aload_n 2, 1), (929, .aload_n 0, 1), (930, .iload_n 3, 1), (931, .iconst 1, 1), (932, .iadd, 1), (933, .iaload, 1), (934, .aload_n 0, 1), (935, .iload_n 3, 1), (936, .iconst 2, 1), (937, .iadd, 1), (938, .iaload, 1), (939, .invokevirtual 102, 3), (942, .if_icmp .eq 134, 3), (945, .iconst 0, 1), (946, .ireturn, 1), (947, .aload_n 1, 1), (948, .aload_n 0, 1), (949, .iload_n 3, 1), (950, .iconst 1, 1), (951, .iadd, 1), (952, .iaload, 1), (953, .aload_n 0, 1), (954, .iload_n 3, 1), (955, .iconst 2, 1), (956, .iadd, 1), (957, .iaload, 1), (958, .aload_n 0, 1), (959, .iload_n 3, 1), (960, .iconst 3, 1), (961, .iadd, 1), (962, .iaload, 1), (963, .invokevirtual 103, 3), (966, .aload_n 2, 1), (967, .aload_n 0, 1), (968, .iload_n 3, 1), (969, .iconst 1, 1)]
set_option maxHeartbeats 1000000 in
theorem ltd_11 : ∀ q ∈ lb_11, decode code q.1 = .ok q.2 := by decide +kernel
def lb_12 : List (Nat × Instr × Nat) := [(970, .iadd, 1), (971, .iaload, 1), (972, .aload_n 0, 1), (973, .iload_n 3, 1), (974, .iconst 2, 1), (975, .iadd, 1), (976, .iaload, 1), (977, .aload_n 0, 1), (978, .iload_n 3, 1), (979, .iconst 3, 1), (980, .iadd, 1), (981, .iaload, 1), (982, .invokevirtual 106, 3), (985, .if_icmp .eq 91, 3), (988, .iconst 0, 1), (989, .ireturn, 1), (990, .aload_n 1, 1), (991, .aload_n 0, 1), (992, .iload_n 3, 1), (993, .iconst 1, 1), (994, .iadd, 1), (995, .iaload, 1), (996, .aload_n 0, 1), (997, .iload_n 3, 1), (998, .iconst 2, 1), (999, .iadd, 1), (1000, .iaload, 1), (1001, .aload_n 0, 1), (1002, .iload_n 3, 1), (1003, .iconst 3, 1), (1004, .iadd, 1), (1005, .iaload, 1), (1006, .aload_n 0, 1), (1007, .iload_n 3, 1), (1008, .iconst 4, 1), (1009, .iadd, 1), (1010, .iaload, 1), (1011, .aload_n 0, 1), (1012, .iload_n 3, 1), (1013, .iconst 5, 1), (1014, .iadd, 1), (1015, .iaload, 1), (1016, .invokevirtual 107, 3), (1019, .aload_n 2, 1), (1020, .aload_n 0, 1), (1021, .iload_n 3, 1), (1022, .iconst 1, 1), (1023, .iadd, 1), (1024, .iaload, 1), (1025, .aload_n 0, 1), (1026, .iload_n 3, 1), (1027, .iconst 2, 1), (1028, .iadd, 1), (1029, .iaload, 1), (1030, .aload_n 0, 1), (1031, .iload_n 3, 1), (1032, .iconst 3, 1), (1033, .iadd, 1), (1034, .iaload, 1), (1035, .aload_n 0, 1)]
set_option maxHeartbeats 1000000 in
theorem ltd_12 : ∀ q ∈ lb_12, decode code q.1 = .ok q.2 := by decide +kernel
def lb_13 : List (Nat × Instr × Nat) := [(1036, .iload_n 3, 1), (1037, .iconst 4, 1), (1038, .iadd, 1), (1039, .iaload, 1), (1040, .aload_n 0, 1), (1041, .iload_n 3, 1), (1042, .iconst 5, 1), (1043, .iadd, 1), (1044, .iaload, 1), (1045, .invokevirtual 110, 3), (1048, .if_icmp .eq 28, 3), (1051, .iconst 0, 1), (1052, .ireturn, 1), (1053, .aload_n 1, 1), (1054, .aload_n 0, 1), (1055, .iload_n 3, 1), (1056, .iconst 1, 1), (1057, .iadd, 1), (1058, .iaload, 1), (1059, .invokevirtual 111, 3), (1062, .aload_n 2, 1), (1063, .aload_n 0, 1), (1064, .iload_n 3, 1), (1065, .iconst 1, 1), (1066, .iadd, 1), (1067, .iaload, 1), (1068, .invokevirtual 114, 3), (1071, .if_icmp .eq 5, 3), (1074, .iconst 0, 1), (1075, .ireturn, 1), (1076, .iinc 3 6, 3), (1079, .goto (-1061), 3), (1082, .iconst 1, 1), (1083, .ireturn, 1)]
set_option maxHeartbeats 1000000 in
theorem ltd_13 : ∀ q ∈ lb_13, decode code q.1 = .ok q.2 := by decide +kernel
set_option maxRecDepth 20000 in
set_option maxHeartbeats 1000000 in
theorem law_dec : ∀ q ∈ m_t M_la_law, decode (m_c M_la_law) q.1 = .ok q.2 := by
  have e : m_t M_la_law = lb_0 ++ (lb_1 ++ (lb_2 ++ (lb_3 ++ (lb_4 ++ (lb_5 ++ (lb_6 ++ (lb_7 ++ (lb_8 ++ (lb_9 ++ (lb_10 ++ (lb_11 ++ (lb_12 ++ (lb_13))))))))))))) := rfl
  rw [e]
  exact List.forall_mem_append.mpr ⟨ltd_0, List.forall_mem_append.mpr ⟨ltd_1, List.forall_mem_append.mpr ⟨ltd_2, List.forall_mem_append.mpr ⟨ltd_3, List.forall_mem_append.mpr ⟨ltd_4, List.forall_mem_append.mpr ⟨ltd_5, List.forall_mem_append.mpr ⟨ltd_6, List.forall_mem_append.mpr ⟨ltd_7, List.forall_mem_append.mpr ⟨ltd_8, List.forall_mem_append.mpr ⟨ltd_9, List.forall_mem_append.mpr ⟨ltd_10, List.forall_mem_append.mpr ⟨ltd_11, List.forall_mem_append.mpr ⟨ltd_12, ltd_13⟩⟩⟩⟩⟩⟩⟩⟩⟩⟩⟩⟩⟩