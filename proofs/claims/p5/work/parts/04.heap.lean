/-! ===== links by their numbers ===== -/
/-- field entries of a class's pool: entry, class, field, kind, nest mate's, its word's place -/
def cz_ft : Nat → List (Nat × Nat × Nat × Nat × Bool × Nat)
  | 0 => [(9, 0, 2, 1, false, 283), (17, 0, 4, 1, false, 290), (21, 0, 6, 1, false, 298), (27, 0, 8, 1, false, 305), (33, 0, 10, 1, false, 314), (39, 0, 12, 1, false, 321), (43, 0, 14, 1, false, 327), (50, 0, 0, 0, false, 274), (54, 0, 1, 0, false, 279), (57, 0, 3, 0, false, 286), (60, 0, 5, 0, false, 294), (63, 0, 7, 0, false, 302), (66, 4, 0, 0, false, 177), (69, 0, 9, 0, false, 310), (72, 0, 11, 0, false, 317), (75, 0, 13, 0, false, 324), (82, 1, 3, 0, false, 263)]
  | 3 => [(9, 3, 3, 1, false, 435), (15, 3, 4, 1, false, 438), (18, 3, 0, 0, false, 428), (22, 3, 1, 0, false, 430), (25, 3, 2, 0, false, 432)]
  | 4 => [(9, 4, 1, 1, false, 181), (15, 4, 0, 0, false, 176)]
  | 5 => [(9, 5, 3, 1, false, 539), (15, 5, 4, 1, false, 540), (18, 5, 5, 1, false, 542), (21, 5, 6, 1, false, 544), (24, 5, 7, 1, false, 546), (27, 5, 8, 1, false, 548), (30, 5, 9, 1, false, 550), (33, 5, 10, 1, false, 552), (36, 5, 11, 1, false, 554), (39, 5, 0, 1, false, 536), (43, 5, 1, 1, false, 537), (47, 5, 2, 0, false, 538), (54, 0, 7, 0, false, 303), (59, 8, 10, 0, false, 500), (64, 8, 11, 1, false, 503), (81, 0, 9, 0, false, 311), (90, 0, 10, 1, false, 315), (94, 9, 5, 0, false, 237), (107, 0, 5, 0, false, 297), (110, 9, 3, 0, false, 233), (112, 0, 6, 1, false, 299), (115, 8, 8, 1, false, 495), (118, 9, 4, 0, false, 235), (125, 9, 1, 0, false, 229), (128, 9, 2, 0, false, 231), (131, 9, 0, 0, false, 227), (134, 8, 2, 1, false, 486), (141, 0, 11, 0, false, 318), (144, 0, 12, 1, false, 322), (147, 1, 0, 0, false, 257), (152, 1, 1, 0, false, 259), (155, 1, 2, 0, false, 261), (158, 0, 8, 1, false, 307), (168, 8, 1, 0, false, 484), (171, 8, 9, 1, false, 499), (174, 0, 0, 0, false, 277), (187, 4, 0, 0, false, 178), (190, 4, 1, 1, false, 182), (192, 0, 2, 1, false, 284)]
  | 6 => [(11, 6, 1, 1, false, 463), (17, 6, 3, 1, false, 466), (21, 6, 0, 0, false, 461), (25, 6, 2, 0, false, 464)]
  | 7 => [(9, 7, 13, 1, false, 380), (15, 7, 14, 1, false, 381), (18, 7, 0, 1, false, 367), (22, 7, 10, 1, false, 377), (31, 7, 11, 3, false, 378), (35, 7, 12, 3, false, 379), (38, 7, 15, 0, false, 382), (42, 7, 16, 0, false, 384), (45, 7, 1, 0, false, 368), (48, 7, 2, 0, false, 369), (58, 7, 3, 0, false, 370), (61, 0, 5, 0, false, 295), (68, 7, 4, 0, false, 371), (78, 7, 5, 2, false, 372), (86, 7, 6, 0, false, 373), (109, 7, 7, 0, false, 374), (112, 0, 1, 0, false, 281), (118, 0, 0, 0, false, 278), (121, 7, 8, 0, false, 375), (129, 7, 9, 0, false, 376), (156, 0, 9, 0, false, 312), (159, 0, 11, 0, false, 319), (162, 0, 13, 0, false, 325), (165, 0, 3, 0, false, 288), (183, 0, 8, 1, false, 308), (196, 0, 14, 1, false, 328), (207, 0, 2, 1, false, 285), (213, 0, 4, 1, false, 292), (217, 2, 0, 0, false, 202), (220, 2, 1, 0, false, 205), (229, 2, 2, 0, false, 208), (230, 2, 3, 0, false, 211), (235, 0, 6, 1, false, 301), (240, 0, 7, 0, false, 304), (243, 0, 10, 1, false, 316), (250, 9, 0, 0, false, 228), (254, 9, 1, 0, false, 230), (255, 9, 2, 0, false, 232), (258, 9, 3, 0, false, 234), (262, 9, 4, 0, false, 236), (274, 9, 5, 0, false, 238), (285, 0, 12, 1, false, 323), (289, 1, 0, 0, false, 258), (295, 1, 1, 0, false, 260), (299, 1, 2, 0, false, 262), (304, 1, 3, 0, false, 264), (306, 4, 0, 0, false, 179), (311, 4, 1, 1, false, 183)]
  | 8 => [(9, 8, 2, 1, false, 485), (15, 8, 3, 1, false, 487), (18, 8, 4, 1, false, 488), (21, 8, 5, 1, false, 489), (25, 8, 6, 1, false, 490), (28, 8, 7, 1, false, 492), (31, 8, 8, 1, false, 494), (34, 8, 9, 1, false, 497), (37, 8, 11, 1, false, 502), (40, 0, 0, 0, false, 275), (46, 8, 0, 0, false, 482), (47, 0, 1, 0, false, 280), (50, 8, 1, 0, false, 483), (56, 0, 3, 0, false, 287), (59, 0, 4, 1, false, 291), (67, 3, 2, 0, false, 433), (72, 3, 3, 1, false, 436), (75, 3, 4, 1, false, 439), (85, 0, 8, 1, false, 306), (93, 2, 2, 0, false, 207), (97, 2, 3, 0, false, 210), (99, 2, 0, 0, false, 201), (102, 2, 1, 0, false, 204), (109, 8, 10, 0, false, 501)]
  | 10 => [(9, 10, 0, 1, false, 580), (16, 10, 2, 1, false, 582), (20, 10, 3, 1, false, 583), (28, 10, 4, 1, false, 584), (35, 10, 6, 1, false, 586), (42, 10, 7, 1, false, 587), (49, 10, 8, 1, false, 588), (58, 10, 10, 1, false, 590), (62, 10, 12, 1, false, 592), (65, 10, 13, 1, false, 593), (68, 10, 14, 1, false, 594), (71, 10, 1, 0, false, 581), (87, 7, 15, 0, false, 383), (90, 10, 15, 0, false, 595), (91, 7, 16, 0, false, 385), (94, 10, 16, 0, false, 596), (95, 10, 5, 3, false, 585), (106, 0, 5, 0, false, 296), (112, 10, 17, 0, false, 597), (129, 8, 7, 1, false, 493), (133, 8, 6, 1, false, 491), (140, 8, 9, 1, false, 498), (143, 8, 8, 1, false, 496), (146, 0, 0, 0, false, 276), (166, 5, 8, 1, false, 549), (169, 5, 9, 1, false, 551), (172, 5, 10, 1, false, 553), (181, 3, 0, 0, false, 429), (204, 0, 6, 1, false, 300), (207, 5, 4, 1, false, 541), (210, 5, 5, 1, false, 543), (213, 5, 6, 1, false, 545), (216, 5, 7, 1, false, 547), (255, 0, 14, 1, false, 329), (269, 3, 1, 0, false, 431), (272, 3, 2, 0, false, 434), (278, 0, 11, 0, false, 320), (288, 10, 11, 3, false, 591), (311, 0, 3, 0, false, 289), (313, 0, 4, 1, false, 293), (317, 2, 0, 0, false, 203), (322, 2, 1, 0, false, 206), (332, 0, 1, 0, false, 282), (335, 0, 9, 0, false, 313), (338, 0, 13, 0, false, 326), (341, 0, 8, 1, false, 309), (345, 4, 0, 0, false, 180), (350, 6, 0, 0, false, 462), (353, 6, 2, 0, false, 465), (358, 10, 9, 3, false, 589), (361, 2, 2, 0, false, 209), (364, 3, 3, 1, false, 437), (366, 2, 3, 0, false, 212), (369, 3, 4, 1, false, 440)]
  | 11 => [(9, 11, 10, 1, false, 1496), (15, 11, 11, 1, false, 1498), (18, 11, 12, 1, false, 1500), (21, 11, 13, 1, false, 1502), (24, 11, 14, 1, false, 1504), (27, 11, 15, 1, false, 1506), (30, 11, 16, 1, false, 1508), (33, 11, 17, 1, false, 1510), (36, 11, 18, 1, false, 1512), (39, 11, 19, 1, false, 1514), (43, 11, 20, 1, false, 1516), (46, 11, 21, 1, false, 1518), (49, 11, 22, 1, false, 1520), (52, 11, 23, 1, false, 1522), (55, 11, 24, 1, false, 1524), (58, 11, 25, 1, false, 1526), (61, 11, 26, 1, false, 1528), (64, 11, 27, 1, false, 1530), (67, 11, 28, 1, false, 1532), (70, 11, 29, 1, false, 1534), (73, 11, 30, 1, false, 1536), (77, 11, 31, 1, false, 1538), (80, 11, 32, 1, false, 1540), (83, 11, 7, 0, false, 1492)]
  | 12 => [(9, 12, 2, 0, false, 1360), (13, 12, 5, 1, false, 1363), (17, 12, 16, 1, false, 1374), (21, 12, 17, 1, false, 1375), (24, 12, 18, 1, false, 1376), (27, 12, 21, 1, false, 1379), (31, 12, 22, 1, false, 1380), (34, 12, 23, 1, false, 1381), (37, 12, 24, 1, false, 1382), (40, 12, 25, 1, false, 1383), (43, 12, 26, 1, false, 1384), (46, 12, 27, 1, false, 1385), (49, 12, 28, 1, false, 1386), (52, 12, 29, 1, false, 1387), (55, 12, 30, 1, false, 1388), (58, 12, 31, 1, false, 1389), (61, 12, 32, 1, false, 1390), (64, 12, 33, 1, false, 1391), (67, 12, 35, 1, false, 1393), (70, 12, 0, 0, false, 1358), (73, 12, 1, 0, false, 1359), (84, 12, 7, 0, false, 1365), (99, 12, 9, 0, false, 1367), (102, 12, 8, 0, false, 1366), (108, 12, 10, 0, false, 1368), (111, 12, 11, 0, false, 1369), (118, 12, 15, 2, false, 1373), (125, 12, 12, 0, false, 1370), (128, 12, 13, 0, false, 1371), (131, 12, 14, 0, false, 1372), (188, 12, 4, 1, false, 1362), (192, 11, 0, 0, true, 0), (205, 11, 30, 1, true, 30), (209, 11, 7, 0, true, 7), (212, 11, 31, 1, true, 31), (215, 11, 32, 1, true, 32), (224, 11, 3, 0, true, 3), (260, 11, 10, 1, true, 10), (263, 11, 1, 0, true, 1), (265, 11, 2, 0, true, 2), (274, 11, 11, 1, true, 11), (277, 11, 12, 1, true, 12), (280, 11, 13, 1, true, 13), (283, 11, 14, 1, true, 14), (296, 11, 15, 1, true, 15), (299, 11, 19, 1, true, 19), (302, 11, 9, 3, true, 9), (306, 11, 16, 1, true, 16), (312, 11, 8, 0, true, 8), (315, 11, 4, 0, true, 4), (333, 11, 20, 1, true, 20), (336, 11, 21, 1, true, 21), (339, 11, 22, 1, true, 22), (342, 11, 23, 1, true, 23), (344, 11, 24, 1, true, 24), (346, 11, 25, 1, true, 25), (349, 11, 5, 0, true, 5), (358, 11, 26, 1, true, 26), (361, 11, 27, 1, true, 27), (364, 11, 28, 1, true, 28), (367, 11, 29, 1, true, 29), (370, 11, 6, 0, true, 6), (373, 11, 18, 1, true, 18), (375, 11, 17, 1, true, 17), (378, 12, 6, 0, false, 1364), (385, 12, 3, 1, false, 1361), (387, 12, 19, 0, false, 1377), (390, 12, 20, 0, false, 1378), (470, 12, 34, 0, false, 1392)]
  | _ => []
def cz_fl (o idx : Nat) : Option (Nat × Nat × Nat × Bool) := ((cz_ft o).find? (fun q => q.1 == idx)).map (fun q => (q.2.1, q.2.2.1, q.2.2.2.1, q.2.2.2.2.1))
def cz_fch (o : Nat) (q : Nat × Nat × Nat × Nat × Bool × Nat) : Bool :=
  decide (q.2.1 < 13) && decide (q.2.2.1 < cz_nf q.2.1) && decide ((cz_fk q.2.1)[q.2.2.1]? = some q.2.2.2.1) &&
  (if q.2.2.2.2.1 then decide ((cz_NF[q.2.2.2.2.2]?).map (fun z => (z.1, z.2.1, z.2.2.1, z.2.2.2.1, z.2.2.2.2.1)) = some (cz_on o, q.1, (cz_TT q.2.1 q.2.2.1).1, (cz_TT q.2.1 q.2.2.1).2.1, (cz_TT q.2.1 q.2.2.1).2.2.1))
   else goodWord (.fieldLink (cz_on o) q.1 (cz_TT q.2.1 q.2.2.1).1 (cz_TT q.2.1 q.2.2.1).2.1 (cz_TT q.2.1 q.2.2.1).2.2.1) && decide (lw_tbl[q.2.2.2.2.2]? = some (.fieldLink (cz_on o) q.1 (cz_TT q.2.1 q.2.2.1).1 (cz_TT q.2.1 q.2.2.1).2.1 (cz_TT q.2.1 q.2.2.1).2.2.1)))
theorem cz_fc0 : (cz_ft 0).all (cz_fch 0) = true := by decide +kernel
theorem cz_fc1 : (cz_ft 1).all (cz_fch 1) = true := by decide +kernel
theorem cz_fc2 : (cz_ft 2).all (cz_fch 2) = true := by decide +kernel
theorem cz_fc3 : (cz_ft 3).all (cz_fch 3) = true := by decide +kernel
theorem cz_fc4 : (cz_ft 4).all (cz_fch 4) = true := by decide +kernel
theorem cz_fc5 : (cz_ft 5).all (cz_fch 5) = true := by decide +kernel
theorem cz_fc6 : (cz_ft 6).all (cz_fch 6) = true := by decide +kernel
theorem cz_fc7 : (cz_ft 7).all (cz_fch 7) = true := by decide +kernel
theorem cz_fc8 : (cz_ft 8).all (cz_fch 8) = true := by decide +kernel
theorem cz_fc9 : (cz_ft 9).all (cz_fch 9) = true := by decide +kernel
theorem cz_fc10 : (cz_ft 10).all (cz_fch 10) = true := by decide +kernel
theorem cz_fc11 : (cz_ft 11).all (cz_fch 11) = true := by decide +kernel
theorem cz_fc12 : (cz_ft 12).all (cz_fch 12) = true := by decide +kernel
theorem cz_fc13 : (cz_ft 13).all (cz_fch 13) = true := by decide +kernel
theorem cz_fc14 : (cz_ft 14).all (cz_fch 14) = true := by decide +kernel
theorem cz_fc15 : (cz_ft 15).all (cz_fch 15) = true := by decide +kernel
theorem cz_fc16 : (cz_ft 16).all (cz_fch 16) = true := by decide +kernel
theorem cz_fall (o : Nat) : (cz_ft o).all (cz_fch o) = true := match o with
  | 0 => cz_fc0
  | 1 => cz_fc1
  | 2 => cz_fc2
  | 3 => cz_fc3
  | 4 => cz_fc4
  | 5 => cz_fc5
  | 6 => cz_fc6
  | 7 => cz_fc7
  | 8 => cz_fc8
  | 9 => cz_fc9
  | 10 => cz_fc10
  | 11 => cz_fc11
  | 12 => cz_fc12
  | 13 => cz_fc13
  | 14 => cz_fc14
  | 15 => cz_fc15
  | 16 => cz_fc16
  | _ + 17 => rfl
theorem cz_in {w : Cond} {i : Nat} (h : lw_tbl[i]? = some w) (hg : goodWord w = true) : w ∈ cz_T := List.mem_filter.mpr ⟨List.mem_of_getElem? h, hg⟩
theorem cz_fl_spec {o idx ci j kd : Nat} {b : Bool} (h : cz_fl o idx = some (ci, j, kd, b)) : ci < 13 ∧ j < cz_nf ci ∧ (cz_fk ci)[j]? = some kd ∧ (b = false → Cond.fieldLink (cz_on o) idx (cz_TT ci j).1 (cz_TT ci j).2.1 (cz_TT ci j).2.2.1 ∈ cz_T) ∧ (b = true → ∃ host, (cz_on o, idx, (cz_TT ci j).1, (cz_TT ci j).2.1, (cz_TT ci j).2.2.1, host) ∈ cz_NF) := by
  unfold cz_fl at h
  cases hq : (cz_ft o).find? (fun q => q.1 == idx) with
  | none => rw [hq] at h; cases h
  | some q =>
    rw [hq] at h
    obtain ⟨q0, q1, q2, q3, q4, q5⟩ := q
    have he := List.find?_some hq
    have hm := List.mem_of_find?_eq_some hq
    have hc := List.all_eq_true.mp (cz_fall o) _ hm
    simp only [Option.map_some, Option.some.injEq, Prod.mk.injEq] at h
    obtain ⟨rfl, rfl, rfl, rfl⟩ := h
    have he : q0 = idx := by simpa using he
    subst he
    simp only [cz_fch, Bool.and_eq_true, decide_eq_true_eq] at hc
    obtain ⟨⟨⟨h1, h2⟩, h3⟩, h4⟩ := hc
    refine ⟨h1, h2, h3, fun hb => ?_, fun hb => ?_⟩
    · rw [hb] at h4
      simp only [Bool.false_eq_true, if_false, Bool.and_eq_true, decide_eq_true_eq] at h4
      exact cz_in h4.2 h4.1
    · rw [hb] at h4
      simp only [if_true, decide_eq_true_eq] at h4
      cases hz : cz_NF[q5]? with
      | none => rw [hz] at h4; cases h4
      | some z =>
        rw [hz] at h4
        obtain ⟨z0, z1, z2, z3, z4, z5⟩ := z
        simp only [Option.map_some, Option.some.injEq, Prod.mk.injEq] at h4
        obtain ⟨rfl, rfl, rfl, rfl, rfl⟩ := h4
        exact ⟨z5, List.mem_of_getElem? hz⟩
/-! ===== the classes ===== -/
theorem cz_i0 : ∀ w ∈ u_ws RX0 TX0 15, w ∈ cz_T := fun w h => List.mem_filter.mpr ((by decide +kernel : ∀ w ∈ u_ws RX0 TX0 15, w ∈ lw_tbl ∧ goodWord w = true) w h)
theorem cz_i1 : ∀ w ∈ u_ws RX1 TX1 4, w ∈ cz_T := fun w h => List.mem_filter.mpr ((by decide +kernel : ∀ w ∈ u_ws RX1 TX1 4, w ∈ lw_tbl ∧ goodWord w = true) w h)
theorem cz_i2 : ∀ w ∈ u_ws RX2 TX2 4, w ∈ cz_T := fun w h => List.mem_filter.mpr ((by decide +kernel : ∀ w ∈ u_ws RX2 TX2 4, w ∈ lw_tbl ∧ goodWord w = true) w h)
theorem cz_i3 : ∀ w ∈ u_ws RX3 TX3 5, w ∈ cz_T := fun w h => List.mem_filter.mpr ((by decide +kernel : ∀ w ∈ u_ws RX3 TX3 5, w ∈ lw_tbl ∧ goodWord w = true) w h)
theorem cz_i4 : ∀ w ∈ u_ws RX4 TX4 2, w ∈ cz_T := fun w h => List.mem_filter.mpr ((by decide +kernel : ∀ w ∈ u_ws RX4 TX4 2, w ∈ lw_tbl ∧ goodWord w = true) w h)
theorem cz_i5 : ∀ w ∈ u_ws RX5 TX5 12, w ∈ cz_T := fun w h => List.mem_filter.mpr ((by decide +kernel : ∀ w ∈ u_ws RX5 TX5 12, w ∈ lw_tbl ∧ goodWord w = true) w h)
theorem cz_i6 : ∀ w ∈ u_ws RX6 TX6 4, w ∈ cz_T := fun w h => List.mem_filter.mpr ((by decide +kernel : ∀ w ∈ u_ws RX6 TX6 4, w ∈ lw_tbl ∧ goodWord w = true) w h)
theorem cz_i7 : ∀ w ∈ u_ws RX7 TX7 17, w ∈ cz_T := fun w h => List.mem_filter.mpr ((by decide +kernel : ∀ w ∈ u_ws RX7 TX7 17, w ∈ lw_tbl ∧ goodWord w = true) w h)
theorem cz_i8 : ∀ w ∈ u_ws RX8 TX8 12, w ∈ cz_T := fun w h => List.mem_filter.mpr ((by decide +kernel : ∀ w ∈ u_ws RX8 TX8 12, w ∈ lw_tbl ∧ goodWord w = true) w h)
theorem cz_i9 : ∀ w ∈ u_ws RX9 TX9 6, w ∈ cz_T := fun w h => List.mem_filter.mpr ((by decide +kernel : ∀ w ∈ u_ws RX9 TX9 6, w ∈ lw_tbl ∧ goodWord w = true) w h)
theorem cz_i10 : ∀ w ∈ u_ws RX10 TX10 18, w ∈ cz_T := fun w h => List.mem_filter.mpr ((by decide +kernel : ∀ w ∈ u_ws RX10 TX10 18, w ∈ lw_tbl ∧ goodWord w = true) w h)
theorem cz_i11 : ∀ w ∈ u_ws RX11 TX11 33, w ∈ cz_T := fun w h => List.mem_filter.mpr ((by decide +kernel : ∀ w ∈ u_ws RX11 TX11 33, w ∈ lw_tbl ∧ goodWord w = true) w h)
theorem cz_i12 : ∀ w ∈ u_ws RX12 TX12 36, w ∈ cz_T := fun w h => List.mem_filter.mpr ((by decide +kernel : ∀ w ∈ u_ws RX12 TX12 36, w ∈ lw_tbl ∧ goodWord w = true) w h)
def cz_ck (ci j kd : Nat) : Bool := match kd with
  | 0 => decide (cz_tf ci j = .int)
  | 1 => match cz_tf ci j with
    | .object _ => true
    | .array _ => true
    | _ => false
  | 2 => decide (cz_tf ci j = .long)
  | _ => decide (kd = 3 ∧ cz_tf ci j = .boolean)
theorem cz_cls {ci : Nat} (h : ci < 13) : vwCl[ci]? = some (cz_on ci, cz_TT ci, cz_nf ci) ∧ (∀ w ∈ u_ws (cz_on ci) (cz_TT ci) (cz_nf ci), w ∈ cz_T) ∧ (∀ k, k < cz_nf ci → parseFieldDescriptor ((cz_TT ci) k).2.2.1 = some (cz_tf ci k)) ∧ (∀ a, a < cz_nf ci → ∀ b, b < cz_nf ci → a ≠ b → ((cz_TT ci) a).2.1 ≠ ((cz_TT ci) b).2.1) ∧ (cz_fk ci).length = cz_nf ci ∧ ((List.range (cz_nf ci)).all (fun j => cz_ck ci j ((cz_fk ci).getD j 9))) = true := match ci, h with
  | 0, _ => ⟨rfl, cz_i0, tyX0_ok, nmX0, rfl, by decide +kernel⟩
  | 1, _ => ⟨rfl, cz_i1, tyX1_ok, nmX1, rfl, by decide +kernel⟩
  | 2, _ => ⟨rfl, cz_i2, tyX2_ok, nmX2, rfl, by decide +kernel⟩
  | 3, _ => ⟨rfl, cz_i3, tyX3_ok, nmX3, rfl, by decide +kernel⟩
  | 4, _ => ⟨rfl, cz_i4, tyX4_ok, nmX4, rfl, by decide +kernel⟩
  | 5, _ => ⟨rfl, cz_i5, tyX5_ok, nmX5, rfl, by decide +kernel⟩
  | 6, _ => ⟨rfl, cz_i6, tyX6_ok, nmX6, rfl, by decide +kernel⟩
  | 7, _ => ⟨rfl, cz_i7, tyX7_ok, nmX7, rfl, by decide +kernel⟩
  | 8, _ => ⟨rfl, cz_i8, tyX8_ok, nmX8, rfl, by decide +kernel⟩
  | 9, _ => ⟨rfl, cz_i9, tyX9_ok, nmX9, rfl, by decide +kernel⟩
  | 10, _ => ⟨rfl, cz_i10, tyX10_ok, nmX10, rfl, by decide +kernel⟩
  | 11, _ => ⟨rfl, cz_i11, tyX11_ok, nmX11, rfl, by decide +kernel⟩
  | 12, _ => ⟨rfl, cz_i12, tyX12_ok, nmX12, rfl, by decide +kernel⟩
  | ci + 13, h => absurd h (by omega)
theorem cz_kd {ci j kd : Nat} (h : ci < 13) (hj : j < cz_nf ci) (hk : (cz_fk ci)[j]? = some kd) : cz_ck ci j kd = true := by
  have h1 := List.all_eq_true.mp (cz_cls h).2.2.2.2.2 j (List.mem_range.mpr hj)
  rw [List.getD_eq_getElem?_getD, hk] at h1
  exact h1
theorem cz_okR {ci j : Nat} {v : Value} (h : cz_ck ci j 1 = true) (hv : v = .null ∨ ∃ a, v = .ref a) : narrow (cz_tf ci j) v = v ∧ fits (cz_tf ci j) v = true := by
  unfold cz_ck at h
  simp only at h
  split at h
  · rename_i q hq
    rcases hv with rfl | ⟨a, rfl⟩ <;> rw [hq] <;> exact ⟨rfl, rfl⟩
  · rename_i q hq
    rcases hv with rfl | ⟨a, rfl⟩ <;> rw [hq] <;> exact ⟨rfl, rfl⟩
  · cases h
theorem cz_okI {ci j : Nat} (x : Int32) (h : cz_ck ci j 0 = true) : narrow (cz_tf ci j) (.int x) = .int x ∧ fits (cz_tf ci j) (.int x) = true := by
  have h : cz_tf ci j = .int := by simpa [cz_ck] using h
  rw [h]; exact ⟨rfl, rfl⟩
theorem cz_okL {ci j : Nat} (x : Int64) (h : cz_ck ci j 2 = true) : narrow (cz_tf ci j) (.long x) = .long x ∧ fits (cz_tf ci j) (.long x) = true := by
  have h : cz_tf ci j = .long := by simpa [cz_ck] using h
  rw [h]; exact ⟨rfl, rfl⟩
theorem cz_okZ {ci j : Nat} {x : Int32} (h : cz_ck ci j 3 = true) (hx : x = 0 ∨ x = 1) : narrow (cz_tf ci j) (.int x) = .int x ∧ fits (cz_tf ci j) (.int x) = true := by
  have h : cz_tf ci j = .boolean := by simpa [cz_ck] using h
  rw [h]; rcases hx with rfl | rfl <;> exact ⟨by decide +kernel, by decide +kernel⟩
theorem cz_fs_at {g : cz_G} {I : cz_I} {R : cz_R} {L : cz_L} {k ci j kd : Nat} (h : (cz_fk ci)[j]? = some kd) : (cz_fs g I R L k ci)[j]? = some (cz_fv g I R L k j kd) := by
  rw [cz_fs, List.getElem?_mapIdx, h]; rfl
section CzW
variable {p : Program} {l : Launch} {e : Env} {s : State} {m : MethodId} {args : Array Value} {below : List Frame} {meth : Method} {c : Code} {A : Nat → Prop} {Z : State → Prop} {g : cz_G} {M : cz_M} {H : Heap} {locs : List Loc} {arr : Array Slot} {pc cn : Nat} {K N : Nat → Nat} {I I' : cz_I} {R R' : cz_R} {L L' : cz_L} {n w : Nat} {rest : List Value}
theorem cz_getf {idx ci j kd k : Nat} {b : Bool} (hC : cz_ok (p, l, e, s, m, args, below, meth, c, A, Z, g) M) (hf : cz_fl M.1 idx = some (ci, j, kd, b)) (hk : K k = ci) (hR : cz_At g A cn K N I R L H) (hd : decode (cz_cc M) pc = .ok (.getfield idx, 3))
    (kk : W p l e (cz_rm M) s m args below meth c H locs n w Z (F0 m (pc + 3) arr (cz_fv g I R L k j kd :: rest))) : W p l e (cz_rm M) s m args below meth c H locs n w Z (F0 m pc arr (.ref (cz_al g k) :: rest)) := by
  obtain ⟨hx, hb, hml, hown, hts, hr, hlocks, hin, hKK, hA⟩ := hC
  obtain ⟨h1, h2, h3, h4, h5⟩ := cz_fl_spec hf
  obtain ⟨c1, c2, -⟩ := cz_cls h1
  have he := cz_getO (g := g) (N := N) (I := I) (R := R) (L := L) hR.2.2.2 hk h1
  cases b with
  | false => exact va_get (D := g.1) hx hb hts c2 hown hKK.1 hR.1 k he c1 j h2 (hts _ (h4 rfl)) (fun _ q => q) (cz_fs_at h3) hd kk
  | true =>
    obtain ⟨host, h6⟩ := h5 rfl
    exact va_getN (D := g.1) (host := host) hx hb hts c2 hown hKK.1 hR.1 k he c1 j h2 (va_Nw.use rfl (hKK.2.1 _ h6)) (fun _ q => q) (cz_fs_at h3) hd kk
/-- the picture behind a store into the cell k -/
theorem cz_stored {k kd : Nat} {H1 : Heap} {e0 : va_E} (hR : cz_At g A cn K N I R L H) (hk : K k = kd) (h99 : kd ≠ 99) (hce : cz_ce g K N I' R' L' k = e0) (hat : va_at g.1 vwCl (cz_al g k, e0) H1) (hz : H1.size = H.size) (oq : ∀ q : Nat, q ≠ cz_al g k → H1[q]? = H[q]?) (ho : ∀ a : Nat, a ≠ k → I' a = I a ∧ R' a = R a ∧ L' a = L a) : cz_At g A cn K N I' R' L' H1 := by
  have hlt := cz_lt hR.2.2.2 hk h99
  have hg := cz_get (g := g) (K := K) (N := N) (I := I) (R := R) (L := L) hlt
  have hs := cz_set (g := g) (c := cn) (K := K) (N := N) (I := I) (R := R) (L := L) hlt hce (fun j hj => cz_ceI (ho j hj).1 (ho j hj).2.1 (ho j hj).2.2)
  refine ⟨?_, ?_, fun i => by rw [hz]; exact hR.2.2.1 i, hR.2.2.2⟩
  · rw [← hs]; exact hR.1.set hR.2.1 hg hat oq
  · rw [← hs]; exact hR.2.1.set hg
theorem cz_putf {idx ci j kd k : Nat} {b : Bool} {v : Value} (hC : cz_ok (p, l, e, s, m, args, below, meth, c, A, Z, g) M) (hf : cz_fl M.1 idx = some (ci, j, kd, b)) (hk : K k = ci) (hR : cz_At g A cn K N I R L H) (hS : va_S A s.heap H locs) (hd : decode (cz_cc M) pc = .ok (.putfield idx, 3))
    (hw : (cz_TT ci j).2.2.2 = false ∨ ((cz_nm M).name = "<init>" ∧ b = false ∧ (cz_TT ci j).1 = cz_on M.1)) (hn : narrow (cz_tf ci j) v = v) (hfit : fits (cz_tf ci j) v = true) (hnew : (cz_fs g I R L k ci).set j v = cz_fs g I' R' L' k ci) (ho : ∀ a : Nat, a ≠ k → I' a = I a ∧ R' a = R a ∧ L' a = L a)
    (kk : ∀ (H1 : Heap) (locs1 : List Loc), cz_At g A cn K N I' R' L' H1 → va_S A s.heap H1 locs1 → W p l e (cz_rm M) s m args below meth c H1 locs1 n w Z (F0 m (pc + 3) arr rest)) : W p l e (cz_rm M) s m args below meth c H locs n w Z (F0 m pc arr (v :: .ref (cz_al g k) :: rest)) := by
  obtain ⟨hx, hb, hml, hown, hts, hr, hlocks, hin, hKK, hA⟩ := hC
  obtain ⟨h1, h2, h3, h4, h5⟩ := cz_fl_spec hf
  obtain ⟨c1, c2, c3, c4, c5, c6⟩ := cz_cls h1
  have he := cz_getO (g := g) (N := N) (I := I) (R := R) (L := L) hR.2.2.2 hk h1
  have hap := va_apart (own := cz_on M.1) hts c2 (cz_tf ci) c3 c4 hKK.1 c1
  obtain ⟨r, q0, cell, q1, q2, q3, q4⟩ := hR.1 k _ he
  have hr2 : r = (cz_on ci, cz_TT ci, cz_nf ci) := Option.some.inj (q0.symm.trans c1)
  subst hr2
  obtain ⟨hSl, hfc, kC, hkC, hkind⟩ := hKK.1.1 ci _ c1
  obtain ⟨cf, kf, fi, f, hi, hsl⟩ := hSl j h2
  have hlay := u_lays hts c2 h2
  have hst := (u_facts hfc hkC hlay hi).1
  have hd0 := c3 j h2
  have h6 := u_fits hfc hkC hkind hlay hi hd0 hn hfit
  have hlen : j < (cz_fs g I R L k ci).length := by rw [cz_fs, List.length_mapIdx, c5]; exact h2
  have fin : ∀ (H' : Heap), H'[cz_al g k]? = some (cell.setSlot f.slot v) → H'.size = H.size → (∀ q, q ≠ cz_al g k → H'[q]? = H[q]?) → cz_At g A cn K N I' R' L' H' ∧ va_S A s.heap H' (locs ++ [⟨cz_al g k, f.slot⟩]) := by
    intro H' e1 e2 e3
    refine ⟨cz_stored hR hk (by omega) (e0 := .inr (ci, (cz_fs g I R L k ci).set j v)) (by rw [cz_ce, hk, if_pos h1, hnew]) ⟨_, c1, ?_⟩ e2 e3 ho, hS.put e2 e3 (hR.2.1.2 k _ he)⟩
    rw [hsl] at e1
    exact t_OB.to (V := updV (vp_V (cz_fs g I R L k ci)) j v) ⟨_, e1, q2, q3, t_set q4 hap h2 v⟩ (fun i _ => vp_updV_set hlen v i)
  have hlt : f.slot < cell.slots.size := by rw [hsl]; exact k2_hasslot (q4 j h2)
  cases hfi : (cz_TT ci j).2.2.2 with
  | true =>
    obtain ⟨g1, rfl, g3⟩ : (cz_nm M).name = "<init>" ∧ b = false ∧ (cz_TT ci j).1 = cz_on M.1 := hw.resolve_left (by rw [hfi]; decide)
    have hlay2 := hts _ (c2 _ (u_in_lay h2))
    unfold u_lay at hlay2
    rw [if_pos hfi] at hlay2
    have hcf : m.cls = cf := by
      obtain ⟨_, _, c', _, _, _, -, -, hf', -, -, -, hown2, -⟩ := Cond.laysFinal_spec hlay2
      have e1 : c' = cf := by have := hi.symm.trans hf'; simp at this; exact this.1.symm
      rw [g3] at hown2
      rw [← e1]; exact Option.some.inj (hown.symm.trans hown2)
    refine W.putFinK hx hb hown (hts _ (h4 rfl)) hi hst hcf (hin g1) (by rw [q2]; exact h6) q1 q3 hlt rfl rfl hd fun H' e1 e2 e3 => ?_
    obtain ⟨f1, f2⟩ := fin H' e1 e2 e3
    exact kk H' _ f1 f2
  | false =>
    have hlay2 := hts _ (c2 _ (u_in_lay h2))
    unfold u_lay at hlay2
    rw [if_neg (by rw [hfi]; decide)] at hlay2
    have h7 := u_store hfc hkC hkind hlay2 hi hd0 hn hfit
    cases b with
    | false =>
      refine W.putK hx hb (f := f) ⟨hown, hts _ (h4 rfl), ⟨_, _, _, hi⟩, hst⟩ (by rw [q2]; exact h7) q1 q3 hlt rfl rfl hd fun H' e1 e2 e3 => ?_
      obtain ⟨f1, f2⟩ := fin H' e1 e2 e3
      exact kk H' _ f1 f2
    | true =>
      obtain ⟨host, h8⟩ := h5 rfl
      refine va_WputK hx hb (f := f) hown (va_Nw.use rfl (hKK.2.1 _ h8)) hi hst (by rw [q2]; exact h7) q1 q3 hlt rfl rfl hd fun H' e1 e2 e3 => ?_
      obtain ⟨f1, f2⟩ := fin H' e1 e2 e3
      exact kk H' _ f1 f2
/-- an array's element is stored -/
theorem cz_asted {k kd : Nat} {H1 : Heap} (hR : cz_At g A cn K N I R L H) (hk : K k = kd) (h1 : 13 ≤ kd) (h2 : kd < 22) (he : H1[cz_al g k]? = some (vp_cell (g.2.1 kd) (N k, cz_ac g I' R' L' k kd))) (hz : H1.size = H.size) (oq : ∀ q : Nat, q ≠ cz_al g k → H1[q]? = H[q]?) (ho : ∀ a : Nat, a ≠ k → I' a = I a ∧ R' a = R a ∧ L' a = L a) : cz_At g A cn K N I' R' L' H1 :=
  cz_stored hR hk (by omega) (e0 := .inl (g.2.1 kd, N k, cz_ac g I' R' L' k kd)) (by rw [cz_ce, hk, if_neg (by omega)]) he hz oq ho
theorem cz_pushed {kd len : Nat} {e0 : va_E} {K' N' : Nat → Nat} {H1 : Heap} (hR : cz_At g A cn K N I R L H) (hS : va_S A s.heap H locs) (hA : ∀ q : Nat, s.heap.size ≤ q → A q) (hK' : K' = va_up K cn kd) (hN' : N' = va_up N cn len) (hI : ∀ a, a < cn → I' a = I a) (hRR : ∀ a, a < cn → R' a = R a) (hL : ∀ a, a < cn → L' a = L a)
    (hce : cz_ce g K' N' I' R' L' cn = e0) (hat : va_at g.1 vwCl (H.size, e0) H1) (hz : H1.size = H.size + 1) (oq : ∀ q : Nat, q < H.size → H1[q]? = H[q]?) : cz_At g A (cn + 1) K' N' I' R' L' H1 ∧ va_S A s.heap H1 locs := by
  have ha : cz_al g cn = H.size := by have := hR.2.2.1 0; simpa using this
  have hp := cz_push (g := g) (c := cn) (K := K) (N := N) (I := I) (R := R) (L := L) hce (fun j hj => by
    have e1 : K' j = K j := by rw [hK', va_up, if_neg (by omega)]
    have e2 : N' j = N j := by rw [hN', va_up, if_neg (by omega)]
    simp only [cz_ce, cz_fs, cz_fv, cz_ac, e1, e2, hI j hj, hRR j hj, hL j hj])
  have hk : ∀ (k : Nat) (x : Nat × va_E), (cz_ws g cn K N I R L)[k]? = some x → H1[x.1]? = H[x.1]? := fun k x hx => oq x.1 ((hR.1 k x hx).lt)
  refine ⟨⟨?_, ?_, fun i => ?_, fun k hk2 => ?_⟩, Nat.le_trans hS.1 (by omega), fun x h1 h2 => (oq x (Nat.lt_of_lt_of_le h1 hS.1)).trans (hS.2.1 x h1 h2), hS.2.2⟩
  · rw [← hp]
    refine (hR.1.kept hk).app (fun k x hx => ?_)
    have hz1 : k < 1 := (List.getElem?_eq_some_iff.mp hx).1
    rw [show k = 0 by omega] at hx
    cases hx
    rw [ha]
    exact hat
  · rw [← hp, ha]
    exact hR.2.1.push hR.1 rfl (hA _ hS.1)
  · have := hR.2.2.1 (i + 1)
    rw [hz, show cn + 1 + i = cn + (i + 1) by omega, this]; omega
  · rw [hK', va_up, if_neg (by omega)]
    exact hR.2.2.2 k (by omega)
end CzW
