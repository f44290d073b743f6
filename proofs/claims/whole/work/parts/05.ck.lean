noncomputable def am_ckQ (j pc : Nat) : Bool := match am_tr j pc with
  | none => true
  | some I => am_ckI j pc I
theorem am_cq0 : ([(0, 0, 120)] : List (Nat × Nat × Nat)).all (fun q => (List.range' q.2.1 q.2.2).all (am_ckQ q.1)) = true := by decide +kernel
theorem am_cq1 : ([(0, 120, 120)] : List (Nat × Nat × Nat)).all (fun q => (List.range' q.2.1 q.2.2).all (am_ckQ q.1)) = true := by decide +kernel
theorem am_cq2 : ([(0, 240, 120)] : List (Nat × Nat × Nat)).all (fun q => (List.range' q.2.1 q.2.2).all (am_ckQ q.1)) = true := by decide +kernel
theorem am_cq3 : ([(0, 360, 120)] : List (Nat × Nat × Nat)).all (fun q => (List.range' q.2.1 q.2.2).all (am_ckQ q.1)) = true := by decide +kernel
theorem am_cq4 : ([(0, 480, 120)] : List (Nat × Nat × Nat)).all (fun q => (List.range' q.2.1 q.2.2).all (am_ckQ q.1)) = true := by decide +kernel
theorem am_cq5 : ([(0, 600, 120)] : List (Nat × Nat × Nat)).all (fun q => (List.range' q.2.1 q.2.2).all (am_ckQ q.1)) = true := by decide +kernel
theorem am_cq6 : ([(0, 720, 78), (1, 0, 26)] : List (Nat × Nat × Nat)).all (fun q => (List.range' q.2.1 q.2.2).all (am_ckQ q.1)) = true := by decide +kernel
theorem am_cq7 : ([(2, 0, 41), (3, 0, 92)] : List (Nat × Nat × Nat)).all (fun q => (List.range' q.2.1 q.2.2).all (am_ckQ q.1)) = true := by decide +kernel
theorem am_cq8 : ([(4, 0, 120)] : List (Nat × Nat × Nat)).all (fun q => (List.range' q.2.1 q.2.2).all (am_ckQ q.1)) = true := by decide +kernel
theorem am_cq9 : ([(4, 120, 30), (5, 0, 27), (6, 0, 10), (7, 0, 31)] : List (Nat × Nat × Nat)).all (fun q => (List.range' q.2.1 q.2.2).all (am_ckQ q.1)) = true := by decide +kernel
theorem am_cq10 : ([(8, 0, 50), (9, 0, 48), (10, 0, 27)] : List (Nat × Nat × Nat)).all (fun q => (List.range' q.2.1 q.2.2).all (am_ckQ q.1)) = true := by decide +kernel
theorem am_cq11 : ([(11, 0, 22), (12, 0, 14), (13, 0, 27), (14, 0, 35)] : List (Nat × Nat × Nat)).all (fun q => (List.range' q.2.1 q.2.2).all (am_ckQ q.1)) = true := by decide +kernel
theorem am_cq12 : ([(15, 0, 40), (16, 0, 20), (17, 0, 38)] : List (Nat × Nat × Nat)).all (fun q => (List.range' q.2.1 q.2.2).all (am_ckQ q.1)) = true := by decide +kernel
theorem am_cq13 : ([(18, 0, 51)] : List (Nat × Nat × Nat)).all (fun q => (List.range' q.2.1 q.2.2).all (am_ckQ q.1)) = true := by decide +kernel
theorem am_cq14 : ([(19, 0, 113)] : List (Nat × Nat × Nat)).all (fun q => (List.range' q.2.1 q.2.2).all (am_ckQ q.1)) = true := by decide +kernel
theorem am_cq15 : ([(20, 0, 63), (21, 0, 58)] : List (Nat × Nat × Nat)).all (fun q => (List.range' q.2.1 q.2.2).all (am_ckQ q.1)) = true := by decide +kernel
theorem am_cq16 : ([(22, 0, 57), (23, 0, 56)] : List (Nat × Nat × Nat)).all (fun q => (List.range' q.2.1 q.2.2).all (am_ckQ q.1)) = true := by decide +kernel
theorem am_cq17 : ([(24, 0, 35), (25, 0, 13), (26, 0, 33), (27, 0, 23)] : List (Nat × Nat × Nat)).all (fun q => (List.range' q.2.1 q.2.2).all (am_ckQ q.1)) = true := by decide +kernel
theorem am_cq18 : ([(28, 0, 22), (29, 0, 22), (30, 0, 49)] : List (Nat × Nat × Nat)).all (fun q => (List.range' q.2.1 q.2.2).all (am_ckQ q.1)) = true := by decide +kernel
theorem am_cq19 : ([(31, 0, 98)] : List (Nat × Nat × Nat)).all (fun q => (List.range' q.2.1 q.2.2).all (am_ckQ q.1)) = true := by decide +kernel
theorem am_cq20 : ([(32, 0, 44), (33, 0, 25), (34, 0, 22)] : List (Nat × Nat × Nat)).all (fun q => (List.range' q.2.1 q.2.2).all (am_ckQ q.1)) = true := by decide +kernel
theorem am_cq21 : ([(35, 0, 109)] : List (Nat × Nat × Nat)).all (fun q => (List.range' q.2.1 q.2.2).all (am_ckQ q.1)) = true := by decide +kernel
theorem am_cq22 : ([(36, 0, 94)] : List (Nat × Nat × Nat)).all (fun q => (List.range' q.2.1 q.2.2).all (am_ckQ q.1)) = true := by decide +kernel
theorem am_cq23 : ([(37, 0, 47), (38, 0, 55)] : List (Nat × Nat × Nat)).all (fun q => (List.range' q.2.1 q.2.2).all (am_ckQ q.1)) = true := by decide +kernel
theorem am_cq24 : ([(39, 0, 18), (40, 0, 34), (41, 0, 41)] : List (Nat × Nat × Nat)).all (fun q => (List.range' q.2.1 q.2.2).all (am_ckQ q.1)) = true := by decide +kernel
theorem am_cq25 : ([(42, 0, 59), (43, 0, 34), (44, 0, 21)] : List (Nat × Nat × Nat)).all (fun q => (List.range' q.2.1 q.2.2).all (am_ckQ q.1)) = true := by decide +kernel
theorem am_cq26 : ([(45, 0, 43), (46, 0, 47)] : List (Nat × Nat × Nat)).all (fun q => (List.range' q.2.1 q.2.2).all (am_ckQ q.1)) = true := by decide +kernel
theorem am_cq27 : ([(47, 0, 39), (48, 0, 74)] : List (Nat × Nat × Nat)).all (fun q => (List.range' q.2.1 q.2.2).all (am_ckQ q.1)) = true := by decide +kernel
theorem am_cq28 : ([(49, 0, 39)] : List (Nat × Nat × Nat)).all (fun q => (List.range' q.2.1 q.2.2).all (am_ckQ q.1)) = true := by decide +kernel
theorem am_cq29 : ([(50, 0, 83)] : List (Nat × Nat × Nat)).all (fun q => (List.range' q.2.1 q.2.2).all (am_ckQ q.1)) = true := by decide +kernel
theorem am_cq30 : ([(51, 0, 67), (52, 0, 16), (53, 0, 32)] : List (Nat × Nat × Nat)).all (fun q => (List.range' q.2.1 q.2.2).all (am_ckQ q.1)) = true := by decide +kernel
theorem am_cq31 : ([(54, 0, 42), (55, 0, 45)] : List (Nat × Nat × Nat)).all (fun q => (List.range' q.2.1 q.2.2).all (am_ckQ q.1)) = true := by decide +kernel
theorem am_cq32 : ([(56, 0, 48), (57, 0, 22)] : List (Nat × Nat × Nat)).all (fun q => (List.range' q.2.1 q.2.2).all (am_ckQ q.1)) = true := by decide +kernel
theorem am_cq33 : ([(58, 0, 105)] : List (Nat × Nat × Nat)).all (fun q => (List.range' q.2.1 q.2.2).all (am_ckQ q.1)) = true := by decide +kernel
theorem am_cq34 : ([(59, 0, 58)] : List (Nat × Nat × Nat)).all (fun q => (List.range' q.2.1 q.2.2).all (am_ckQ q.1)) = true := by decide +kernel
theorem am_cq35 : ([(60, 0, 113)] : List (Nat × Nat × Nat)).all (fun q => (List.range' q.2.1 q.2.2).all (am_ckQ q.1)) = true := by decide +kernel
theorem am_cq36 : ([(61, 0, 56), (62, 0, 54)] : List (Nat × Nat × Nat)).all (fun q => (List.range' q.2.1 q.2.2).all (am_ckQ q.1)) = true := by decide +kernel
theorem am_cq37 : ([(63, 0, 22), (64, 0, 95)] : List (Nat × Nat × Nat)).all (fun q => (List.range' q.2.1 q.2.2).all (am_ckQ q.1)) = true := by decide +kernel
theorem am_cq38 : ([(65, 0, 27), (66, 0, 11), (67, 0, 6), (68, 0, 4), (69, 0, 4)] : List (Nat × Nat × Nat)).all (fun q => (List.range' q.2.1 q.2.2).all (am_ckQ q.1)) = true := by decide +kernel
theorem am_cq39 : ([(70, 0, 96), (71, 0, 16)] : List (Nat × Nat × Nat)).all (fun q => (List.range' q.2.1 q.2.2).all (am_ckQ q.1)) = true := by decide +kernel
theorem am_cq40 : ([(72, 0, 92)] : List (Nat × Nat × Nat)).all (fun q => (List.range' q.2.1 q.2.2).all (am_ckQ q.1)) = true := by decide +kernel
theorem am_cq41 : ([(73, 0, 120), (73, 120, 8)] : List (Nat × Nat × Nat)).all (fun q => (List.range' q.2.1 q.2.2).all (am_ckQ q.1)) = true := by decide +kernel
theorem am_cq42 : ([(74, 0, 38)] : List (Nat × Nat × Nat)).all (fun q => (List.range' q.2.1 q.2.2).all (am_ckQ q.1)) = true := by decide +kernel
theorem am_cq43 : ([(75, 0, 120), (75, 120, 17)] : List (Nat × Nat × Nat)).all (fun q => (List.range' q.2.1 q.2.2).all (am_ckQ q.1)) = true := by decide +kernel
theorem am_cq44 : ([(76, 0, 65), (77, 0, 38), (78, 0, 18), (79, 0, 8)] : List (Nat × Nat × Nat)).all (fun q => (List.range' q.2.1 q.2.2).all (am_ckQ q.1)) = true := by decide +kernel
theorem am_cq45 : ([(80, 0, 73), (81, 0, 44)] : List (Nat × Nat × Nat)).all (fun q => (List.range' q.2.1 q.2.2).all (am_ckQ q.1)) = true := by decide +kernel
theorem am_cq46 : ([(82, 0, 56), (83, 0, 60)] : List (Nat × Nat × Nat)).all (fun q => (List.range' q.2.1 q.2.2).all (am_ckQ q.1)) = true := by decide +kernel
theorem am_cq47 : ([(84, 0, 45), (85, 0, 38), (86, 0, 49)] : List (Nat × Nat × Nat)).all (fun q => (List.range' q.2.1 q.2.2).all (am_ckQ q.1)) = true := by decide +kernel
theorem am_cq48 : ([(87, 0, 120)] : List (Nat × Nat × Nat)).all (fun q => (List.range' q.2.1 q.2.2).all (am_ckQ q.1)) = true := by decide +kernel
theorem am_cq49 : ([(87, 120, 29), (88, 0, 61), (89, 0, 42)] : List (Nat × Nat × Nat)).all (fun q => (List.range' q.2.1 q.2.2).all (am_ckQ q.1)) = true := by decide +kernel
theorem am_cq50 : ([(90, 0, 51), (91, 0, 18), (92, 0, 32), (93, 0, 45)] : List (Nat × Nat × Nat)).all (fun q => (List.range' q.2.1 q.2.2).all (am_ckQ q.1)) = true := by decide +kernel
theorem am_cq51 : ([(94, 0, 50)] : List (Nat × Nat × Nat)).all (fun q => (List.range' q.2.1 q.2.2).all (am_ckQ q.1)) = true := by decide +kernel
theorem am_cq52 : ([(95, 0, 109)] : List (Nat × Nat × Nat)).all (fun q => (List.range' q.2.1 q.2.2).all (am_ckQ q.1)) = true := by decide +kernel
theorem am_cq53 : ([(96, 0, 91), (97, 0, 30)] : List (Nat × Nat × Nat)).all (fun q => (List.range' q.2.1 q.2.2).all (am_ckQ q.1)) = true := by decide +kernel
theorem am_cq54 : ([(98, 0, 58), (99, 0, 98), (100, 0, 16)] : List (Nat × Nat × Nat)).all (fun q => (List.range' q.2.1 q.2.2).all (am_ckQ q.1)) = true := by decide +kernel
theorem am_cq55 : ([(101, 0, 8), (102, 0, 7), (103, 0, 16)] : List (Nat × Nat × Nat)).all (fun q => (List.range' q.2.1 q.2.2).all (am_ckQ q.1)) = true := by decide +kernel
theorem am_cq56 : ([(104, 0, 120)] : List (Nat × Nat × Nat)).all (fun q => (List.range' q.2.1 q.2.2).all (am_ckQ q.1)) = true := by decide +kernel
theorem am_cq57 : ([(104, 120, 87), (105, 0, 19), (106, 0, 10)] : List (Nat × Nat × Nat)).all (fun q => (List.range' q.2.1 q.2.2).all (am_ckQ q.1)) = true := by decide +kernel
theorem am_cq58 : ([(107, 0, 10), (108, 0, 11), (109, 0, 22), (110, 0, 15)] : List (Nat × Nat × Nat)).all (fun q => (List.range' q.2.1 q.2.2).all (am_ckQ q.1)) = true := by decide +kernel
theorem am_cq59 : ([(111, 0, 93), (112, 0, 16)] : List (Nat × Nat × Nat)).all (fun q => (List.range' q.2.1 q.2.2).all (am_ckQ q.1)) = true := by decide +kernel
theorem am_cq60 : ([(113, 0, 22), (114, 0, 54), (115, 0, 12), (116, 0, 32)] : List (Nat × Nat × Nat)).all (fun q => (List.range' q.2.1 q.2.2).all (am_ckQ q.1)) = true := by decide +kernel
theorem am_cq61 : ([(117, 0, 59), (118, 0, 52)] : List (Nat × Nat × Nat)).all (fun q => (List.range' q.2.1 q.2.2).all (am_ckQ q.1)) = true := by decide +kernel
theorem am_cq62 : ([(119, 0, 69), (120, 0, 55)] : List (Nat × Nat × Nat)).all (fun q => (List.range' q.2.1 q.2.2).all (am_ckQ q.1)) = true := by decide +kernel
theorem am_cq63 : ([(121, 0, 46), (122, 0, 107)] : List (Nat × Nat × Nat)).all (fun q => (List.range' q.2.1 q.2.2).all (am_ckQ q.1)) = true := by decide +kernel
theorem am_cq64 : ([(123, 0, 34)] : List (Nat × Nat × Nat)).all (fun q => (List.range' q.2.1 q.2.2).all (am_ckQ q.1)) = true := by decide +kernel
theorem am_cq65 : ([(124, 0, 103)] : List (Nat × Nat × Nat)).all (fun q => (List.range' q.2.1 q.2.2).all (am_ckQ q.1)) = true := by decide +kernel
theorem am_cq66 : ([(125, 0, 47), (126, 0, 61)] : List (Nat × Nat × Nat)).all (fun q => (List.range' q.2.1 q.2.2).all (am_ckQ q.1)) = true := by decide +kernel
theorem am_cq67 : ([(127, 0, 64)] : List (Nat × Nat × Nat)).all (fun q => (List.range' q.2.1 q.2.2).all (am_ckQ q.1)) = true := by decide +kernel
theorem am_cq68 : ([(128, 0, 98)] : List (Nat × Nat × Nat)).all (fun q => (List.range' q.2.1 q.2.2).all (am_ckQ q.1)) = true := by decide +kernel
theorem am_cq69 : ([(129, 0, 99)] : List (Nat × Nat × Nat)).all (fun q => (List.range' q.2.1 q.2.2).all (am_ckQ q.1)) = true := by decide +kernel
theorem am_cq70 : ([(130, 0, 50)] : List (Nat × Nat × Nat)).all (fun q => (List.range' q.2.1 q.2.2).all (am_ckQ q.1)) = true := by decide +kernel
theorem am_cq71 : ([(131, 0, 113)] : List (Nat × Nat × Nat)).all (fun q => (List.range' q.2.1 q.2.2).all (am_ckQ q.1)) = true := by decide +kernel
theorem am_cq72 : ([(132, 0, 33), (133, 0, 71)] : List (Nat × Nat × Nat)).all (fun q => (List.range' q.2.1 q.2.2).all (am_ckQ q.1)) = true := by decide +kernel
theorem am_cq73 : ([(134, 0, 67), (135, 0, 50)] : List (Nat × Nat × Nat)).all (fun q => (List.range' q.2.1 q.2.2).all (am_ckQ q.1)) = true := by decide +kernel
theorem am_cq74 : ([(136, 0, 46), (137, 0, 43)] : List (Nat × Nat × Nat)).all (fun q => (List.range' q.2.1 q.2.2).all (am_ckQ q.1)) = true := by decide +kernel
theorem am_cq75 : ([(138, 0, 59), (139, 0, 36)] : List (Nat × Nat × Nat)).all (fun q => (List.range' q.2.1 q.2.2).all (am_ckQ q.1)) = true := by decide +kernel
theorem am_cq76 : ([(140, 0, 52), (141, 0, 62)] : List (Nat × Nat × Nat)).all (fun q => (List.range' q.2.1 q.2.2).all (am_ckQ q.1)) = true := by decide +kernel
theorem am_cq77 : ([(142, 0, 48), (143, 0, 27)] : List (Nat × Nat × Nat)).all (fun q => (List.range' q.2.1 q.2.2).all (am_ckQ q.1)) = true := by decide +kernel
theorem am_cq78 : ([(144, 0, 120)] : List (Nat × Nat × Nat)).all (fun q => (List.range' q.2.1 q.2.2).all (am_ckQ q.1)) = true := by decide +kernel
theorem am_cq79 : ([(144, 120, 24)] : List (Nat × Nat × Nat)).all (fun q => (List.range' q.2.1 q.2.2).all (am_ckQ q.1)) = true := by decide +kernel
theorem am_cq80 : ([(145, 0, 120), (145, 120, 14)] : List (Nat × Nat × Nat)).all (fun q => (List.range' q.2.1 q.2.2).all (am_ckQ q.1)) = true := by decide +kernel
theorem am_cq81 : ([(146, 0, 67)] : List (Nat × Nat × Nat)).all (fun q => (List.range' q.2.1 q.2.2).all (am_ckQ q.1)) = true := by decide +kernel
theorem am_cq82 : ([(147, 0, 83)] : List (Nat × Nat × Nat)).all (fun q => (List.range' q.2.1 q.2.2).all (am_ckQ q.1)) = true := by decide +kernel
theorem am_cq83 : ([(148, 0, 120), (148, 120, 2)] : List (Nat × Nat × Nat)).all (fun q => (List.range' q.2.1 q.2.2).all (am_ckQ q.1)) = true := by decide +kernel
theorem am_cq84 : ([(149, 0, 82)] : List (Nat × Nat × Nat)).all (fun q => (List.range' q.2.1 q.2.2).all (am_ckQ q.1)) = true := by decide +kernel
theorem am_cq85 : ([(150, 0, 113)] : List (Nat × Nat × Nat)).all (fun q => (List.range' q.2.1 q.2.2).all (am_ckQ q.1)) = true := by decide +kernel
theorem am_cq86 : ([(151, 0, 67)] : List (Nat × Nat × Nat)).all (fun q => (List.range' q.2.1 q.2.2).all (am_ckQ q.1)) = true := by decide +kernel
theorem am_cq87 : ([(152, 0, 91)] : List (Nat × Nat × Nat)).all (fun q => (List.range' q.2.1 q.2.2).all (am_ckQ q.1)) = true := by decide +kernel
theorem am_cq88 : ([(153, 0, 79), (154, 0, 12)] : List (Nat × Nat × Nat)).all (fun q => (List.range' q.2.1 q.2.2).all (am_ckQ q.1)) = true := by decide +kernel
theorem am_cq89 : ([(155, 0, 52), (156, 0, 59)] : List (Nat × Nat × Nat)).all (fun q => (List.range' q.2.1 q.2.2).all (am_ckQ q.1)) = true := by decide +kernel
theorem am_cq90 : ([(157, 0, 44), (158, 0, 50)] : List (Nat × Nat × Nat)).all (fun q => (List.range' q.2.1 q.2.2).all (am_ckQ q.1)) = true := by decide +kernel
theorem am_cq91 : ([(159, 0, 92)] : List (Nat × Nat × Nat)).all (fun q => (List.range' q.2.1 q.2.2).all (am_ckQ q.1)) = true := by decide +kernel
theorem am_cq92 : ([(160, 0, 36)] : List (Nat × Nat × Nat)).all (fun q => (List.range' q.2.1 q.2.2).all (am_ckQ q.1)) = true := by decide +kernel
theorem am_cq93 : ([(161, 0, 114), (162, 0, 15)] : List (Nat × Nat × Nat)).all (fun q => (List.range' q.2.1 q.2.2).all (am_ckQ q.1)) = true := by decide +kernel
theorem am_cq94 : ([(163, 0, 18), (164, 0, 52)] : List (Nat × Nat × Nat)).all (fun q => (List.range' q.2.1 q.2.2).all (am_ckQ q.1)) = true := by decide +kernel
theorem am_cq95 : ([(165, 0, 106)] : List (Nat × Nat × Nat)).all (fun q => (List.range' q.2.1 q.2.2).all (am_ckQ q.1)) = true := by decide +kernel
theorem am_cq96 : ([(166, 0, 34), (167, 0, 48)] : List (Nat × Nat × Nat)).all (fun q => (List.range' q.2.1 q.2.2).all (am_ckQ q.1)) = true := by decide +kernel
theorem am_cq97 : ([(168, 0, 82), (169, 0, 37)] : List (Nat × Nat × Nat)).all (fun q => (List.range' q.2.1 q.2.2).all (am_ckQ q.1)) = true := by decide +kernel
theorem am_cq98 : ([(170, 0, 120), (170, 120, 16)] : List (Nat × Nat × Nat)).all (fun q => (List.range' q.2.1 q.2.2).all (am_ckQ q.1)) = true := by decide +kernel
theorem am_cq99 : ([(171, 0, 120)] : List (Nat × Nat × Nat)).all (fun q => (List.range' q.2.1 q.2.2).all (am_ckQ q.1)) = true := by decide +kernel
theorem am_cq100 : ([(171, 120, 109)] : List (Nat × Nat × Nat)).all (fun q => (List.range' q.2.1 q.2.2).all (am_ckQ q.1)) = true := by decide +kernel
theorem am_cq101 : ([(172, 0, 43), (173, 0, 24)] : List (Nat × Nat × Nat)).all (fun q => (List.range' q.2.1 q.2.2).all (am_ckQ q.1)) = true := by decide +kernel
theorem am_cq102 : ([(174, 0, 95), (175, 0, 39)] : List (Nat × Nat × Nat)).all (fun q => (List.range' q.2.1 q.2.2).all (am_ckQ q.1)) = true := by decide +kernel
theorem am_cq103 : ([(176, 0, 44), (177, 0, 83)] : List (Nat × Nat × Nat)).all (fun q => (List.range' q.2.1 q.2.2).all (am_ckQ q.1)) = true := by decide +kernel
theorem am_cq104 : ([(178, 0, 53), (179, 0, 11), (180, 0, 11)] : List (Nat × Nat × Nat)).all (fun q => (List.range' q.2.1 q.2.2).all (am_ckQ q.1)) = true := by decide +kernel
theorem am_nb {a b : Nat} (h : Nat.blt a b = true) : a < b := Nat.lt_of_lt_of_le (Nat.lt_succ_self a) (Nat.le_of_ble_eq_true h)
theorem am_cqk {l : List (Nat × Nat × Nat)} (h : l.all (fun q => (List.range' q.2.1 q.2.2).all (am_ckQ q.1)) = true) (k : Nat) {j a n pc : Nat} (hk : l[k]? = some (j, a, n)) (h1 : a ≤ pc) (h2 : pc < a + n) : am_ckQ j pc = true := by
  have h3 := List.all_eq_true.mp h (j, a, n) (List.mem_of_getElem? hk)
  exact List.all_eq_true.mp h3 pc (by simp; omega)
theorem am_cm0 (pc : Nat) (h : pc < 798) : am_ckQ 0 pc = true := by
  by_cases h0 : pc < 120
  · exact am_cqk am_cq0 0 rfl (by omega) (by omega)
  by_cases h1 : pc < 240
  · exact am_cqk am_cq1 0 rfl (by omega) (by omega)
  by_cases h2 : pc < 360
  · exact am_cqk am_cq2 0 rfl (by omega) (by omega)
  by_cases h3 : pc < 480
  · exact am_cqk am_cq3 0 rfl (by omega) (by omega)
  by_cases h4 : pc < 600
  · exact am_cqk am_cq4 0 rfl (by omega) (by omega)
  by_cases h5 : pc < 720
  · exact am_cqk am_cq5 0 rfl (by omega) (by omega)
  exact am_cqk am_cq6 0 rfl (by omega) (by omega)
theorem am_cm1 (pc : Nat) (h : pc < 26) : am_ckQ 1 pc = true := by
  exact am_cqk am_cq6 1 rfl (by omega) (by omega)
theorem am_cm2 (pc : Nat) (h : pc < 41) : am_ckQ 2 pc = true := by
  exact am_cqk am_cq7 0 rfl (by omega) (by omega)
theorem am_cm3 (pc : Nat) (h : pc < 92) : am_ckQ 3 pc = true := by
  exact am_cqk am_cq7 1 rfl (by omega) (by omega)
theorem am_cm4 (pc : Nat) (h : pc < 150) : am_ckQ 4 pc = true := by
  by_cases h0 : pc < 120
  · exact am_cqk am_cq8 0 rfl (by omega) (by omega)
  exact am_cqk am_cq9 0 rfl (by omega) (by omega)
theorem am_cm5 (pc : Nat) (h : pc < 27) : am_ckQ 5 pc = true := by
  exact am_cqk am_cq9 1 rfl (by omega) (by omega)
theorem am_cm6 (pc : Nat) (h : pc < 10) : am_ckQ 6 pc = true := by
  exact am_cqk am_cq9 2 rfl (by omega) (by omega)
theorem am_cm7 (pc : Nat) (h : pc < 31) : am_ckQ 7 pc = true := by
  exact am_cqk am_cq9 3 rfl (by omega) (by omega)
theorem am_cm8 (pc : Nat) (h : pc < 50) : am_ckQ 8 pc = true := by
  exact am_cqk am_cq10 0 rfl (by omega) (by omega)
theorem am_cm9 (pc : Nat) (h : pc < 48) : am_ckQ 9 pc = true := by
  exact am_cqk am_cq10 1 rfl (by omega) (by omega)
theorem am_cm10 (pc : Nat) (h : pc < 27) : am_ckQ 10 pc = true := by
  exact am_cqk am_cq10 2 rfl (by omega) (by omega)
theorem am_cm11 (pc : Nat) (h : pc < 22) : am_ckQ 11 pc = true := by
  exact am_cqk am_cq11 0 rfl (by omega) (by omega)
theorem am_cm12 (pc : Nat) (h : pc < 14) : am_ckQ 12 pc = true := by
  exact am_cqk am_cq11 1 rfl (by omega) (by omega)
theorem am_cm13 (pc : Nat) (h : pc < 27) : am_ckQ 13 pc = true := by
  exact am_cqk am_cq11 2 rfl (by omega) (by omega)
theorem am_cm14 (pc : Nat) (h : pc < 35) : am_ckQ 14 pc = true := by
  exact am_cqk am_cq11 3 rfl (by omega) (by omega)
theorem am_cm15 (pc : Nat) (h : pc < 40) : am_ckQ 15 pc = true := by
  exact am_cqk am_cq12 0 rfl (by omega) (by omega)
theorem am_cm16 (pc : Nat) (h : pc < 20) : am_ckQ 16 pc = true := by
  exact am_cqk am_cq12 1 rfl (by omega) (by omega)
theorem am_cm17 (pc : Nat) (h : pc < 38) : am_ckQ 17 pc = true := by
  exact am_cqk am_cq12 2 rfl (by omega) (by omega)
theorem am_cm18 (pc : Nat) (h : pc < 51) : am_ckQ 18 pc = true := by
  exact am_cqk am_cq13 0 rfl (by omega) (by omega)
theorem am_cm19 (pc : Nat) (h : pc < 113) : am_ckQ 19 pc = true := by
  exact am_cqk am_cq14 0 rfl (by omega) (by omega)
theorem am_cm20 (pc : Nat) (h : pc < 63) : am_ckQ 20 pc = true := by
  exact am_cqk am_cq15 0 rfl (by omega) (by omega)
theorem am_cm21 (pc : Nat) (h : pc < 58) : am_ckQ 21 pc = true := by
  exact am_cqk am_cq15 1 rfl (by omega) (by omega)
theorem am_cm22 (pc : Nat) (h : pc < 57) : am_ckQ 22 pc = true := by
  exact am_cqk am_cq16 0 rfl (by omega) (by omega)
theorem am_cm23 (pc : Nat) (h : pc < 56) : am_ckQ 23 pc = true := by
  exact am_cqk am_cq16 1 rfl (by omega) (by omega)
theorem am_cm24 (pc : Nat) (h : pc < 35) : am_ckQ 24 pc = true := by
  exact am_cqk am_cq17 0 rfl (by omega) (by omega)
theorem am_cm25 (pc : Nat) (h : pc < 13) : am_ckQ 25 pc = true := by
  exact am_cqk am_cq17 1 rfl (by omega) (by omega)
theorem am_cm26 (pc : Nat) (h : pc < 33) : am_ckQ 26 pc = true := by
  exact am_cqk am_cq17 2 rfl (by omega) (by omega)
theorem am_cm27 (pc : Nat) (h : pc < 23) : am_ckQ 27 pc = true := by
  exact am_cqk am_cq17 3 rfl (by omega) (by omega)
theorem am_cm28 (pc : Nat) (h : pc < 22) : am_ckQ 28 pc = true := by
  exact am_cqk am_cq18 0 rfl (by omega) (by omega)
theorem am_cm29 (pc : Nat) (h : pc < 22) : am_ckQ 29 pc = true := by
  exact am_cqk am_cq18 1 rfl (by omega) (by omega)
theorem am_cm30 (pc : Nat) (h : pc < 49) : am_ckQ 30 pc = true := by
  exact am_cqk am_cq18 2 rfl (by omega) (by omega)
theorem am_cm31 (pc : Nat) (h : pc < 98) : am_ckQ 31 pc = true := by
  exact am_cqk am_cq19 0 rfl (by omega) (by omega)
theorem am_cm32 (pc : Nat) (h : pc < 44) : am_ckQ 32 pc = true := by
  exact am_cqk am_cq20 0 rfl (by omega) (by omega)
theorem am_cm33 (pc : Nat) (h : pc < 25) : am_ckQ 33 pc = true := by
  exact am_cqk am_cq20 1 rfl (by omega) (by omega)
theorem am_cm34 (pc : Nat) (h : pc < 22) : am_ckQ 34 pc = true := by
  exact am_cqk am_cq20 2 rfl (by omega) (by omega)
theorem am_cm35 (pc : Nat) (h : pc < 109) : am_ckQ 35 pc = true := by
  exact am_cqk am_cq21 0 rfl (by omega) (by omega)
theorem am_cm36 (pc : Nat) (h : pc < 94) : am_ckQ 36 pc = true := by
  exact am_cqk am_cq22 0 rfl (by omega) (by omega)
theorem am_cm37 (pc : Nat) (h : pc < 47) : am_ckQ 37 pc = true := by
  exact am_cqk am_cq23 0 rfl (by omega) (by omega)
theorem am_cm38 (pc : Nat) (h : pc < 55) : am_ckQ 38 pc = true := by
  exact am_cqk am_cq23 1 rfl (by omega) (by omega)
theorem am_cm39 (pc : Nat) (h : pc < 18) : am_ckQ 39 pc = true := by
  exact am_cqk am_cq24 0 rfl (by omega) (by omega)
theorem am_cm40 (pc : Nat) (h : pc < 34) : am_ckQ 40 pc = true := by
  exact am_cqk am_cq24 1 rfl (by omega) (by omega)
theorem am_cm41 (pc : Nat) (h : pc < 41) : am_ckQ 41 pc = true := by
  exact am_cqk am_cq24 2 rfl (by omega) (by omega)
theorem am_cm42 (pc : Nat) (h : pc < 59) : am_ckQ 42 pc = true := by
  exact am_cqk am_cq25 0 rfl (by omega) (by omega)
theorem am_cm43 (pc : Nat) (h : pc < 34) : am_ckQ 43 pc = true := by
  exact am_cqk am_cq25 1 rfl (by omega) (by omega)
theorem am_cm44 (pc : Nat) (h : pc < 21) : am_ckQ 44 pc = true := by
  exact am_cqk am_cq25 2 rfl (by omega) (by omega)
theorem am_cm45 (pc : Nat) (h : pc < 43) : am_ckQ 45 pc = true := by
  exact am_cqk am_cq26 0 rfl (by omega) (by omega)
theorem am_cm46 (pc : Nat) (h : pc < 47) : am_ckQ 46 pc = true := by
  exact am_cqk am_cq26 1 rfl (by omega) (by omega)
theorem am_cm47 (pc : Nat) (h : pc < 39) : am_ckQ 47 pc = true := by
  exact am_cqk am_cq27 0 rfl (by omega) (by omega)
theorem am_cm48 (pc : Nat) (h : pc < 74) : am_ckQ 48 pc = true := by
  exact am_cqk am_cq27 1 rfl (by omega) (by omega)
theorem am_cm49 (pc : Nat) (h : pc < 39) : am_ckQ 49 pc = true := by
  exact am_cqk am_cq28 0 rfl (by omega) (by omega)
theorem am_cm50 (pc : Nat) (h : pc < 83) : am_ckQ 50 pc = true := by
  exact am_cqk am_cq29 0 rfl (by omega) (by omega)
theorem am_cm51 (pc : Nat) (h : pc < 67) : am_ckQ 51 pc = true := by
  exact am_cqk am_cq30 0 rfl (by omega) (by omega)
theorem am_cm52 (pc : Nat) (h : pc < 16) : am_ckQ 52 pc = true := by
  exact am_cqk am_cq30 1 rfl (by omega) (by omega)
theorem am_cm53 (pc : Nat) (h : pc < 32) : am_ckQ 53 pc = true := by
  exact am_cqk am_cq30 2 rfl (by omega) (by omega)
theorem am_cm54 (pc : Nat) (h : pc < 42) : am_ckQ 54 pc = true := by
  exact am_cqk am_cq31 0 rfl (by omega) (by omega)
theorem am_cm55 (pc : Nat) (h : pc < 45) : am_ckQ 55 pc = true := by
  exact am_cqk am_cq31 1 rfl (by omega) (by omega)
theorem am_cm56 (pc : Nat) (h : pc < 48) : am_ckQ 56 pc = true := by
  exact am_cqk am_cq32 0 rfl (by omega) (by omega)
theorem am_cm57 (pc : Nat) (h : pc < 22) : am_ckQ 57 pc = true := by
  exact am_cqk am_cq32 1 rfl (by omega) (by omega)
theorem am_cm58 (pc : Nat) (h : pc < 105) : am_ckQ 58 pc = true := by
  exact am_cqk am_cq33 0 rfl (by omega) (by omega)
theorem am_cm59 (pc : Nat) (h : pc < 58) : am_ckQ 59 pc = true := by
  exact am_cqk am_cq34 0 rfl (by omega) (by omega)
theorem am_cm60 (pc : Nat) (h : pc < 113) : am_ckQ 60 pc = true := by
  exact am_cqk am_cq35 0 rfl (by omega) (by omega)
theorem am_cm61 (pc : Nat) (h : pc < 56) : am_ckQ 61 pc = true := by
  exact am_cqk am_cq36 0 rfl (by omega) (by omega)
theorem am_cm62 (pc : Nat) (h : pc < 54) : am_ckQ 62 pc = true := by
  exact am_cqk am_cq36 1 rfl (by omega) (by omega)
theorem am_cm63 (pc : Nat) (h : pc < 22) : am_ckQ 63 pc = true := by
  exact am_cqk am_cq37 0 rfl (by omega) (by omega)
theorem am_cm64 (pc : Nat) (h : pc < 95) : am_ckQ 64 pc = true := by
  exact am_cqk am_cq37 1 rfl (by omega) (by omega)
theorem am_cm65 (pc : Nat) (h : pc < 27) : am_ckQ 65 pc = true := by
  exact am_cqk am_cq38 0 rfl (by omega) (by omega)
theorem am_cm66 (pc : Nat) (h : pc < 11) : am_ckQ 66 pc = true := by
  exact am_cqk am_cq38 1 rfl (by omega) (by omega)
theorem am_cm67 (pc : Nat) (h : pc < 6) : am_ckQ 67 pc = true := by
  exact am_cqk am_cq38 2 rfl (by omega) (by omega)
theorem am_cm68 (pc : Nat) (h : pc < 4) : am_ckQ 68 pc = true := by
  exact am_cqk am_cq38 3 rfl (by omega) (by omega)
theorem am_cm69 (pc : Nat) (h : pc < 4) : am_ckQ 69 pc = true := by
  exact am_cqk am_cq38 4 rfl (by omega) (by omega)
theorem am_cm70 (pc : Nat) (h : pc < 96) : am_ckQ 70 pc = true := by
  exact am_cqk am_cq39 0 rfl (by omega) (by omega)
theorem am_cm71 (pc : Nat) (h : pc < 16) : am_ckQ 71 pc = true := by
  exact am_cqk am_cq39 1 rfl (by omega) (by omega)
theorem am_cm72 (pc : Nat) (h : pc < 92) : am_ckQ 72 pc = true := by
  exact am_cqk am_cq40 0 rfl (by omega) (by omega)
theorem am_cm73 (pc : Nat) (h : pc < 128) : am_ckQ 73 pc = true := by
  by_cases h0 : pc < 120
  · exact am_cqk am_cq41 0 rfl (by omega) (by omega)
  exact am_cqk am_cq41 1 rfl (by omega) (by omega)
theorem am_cm74 (pc : Nat) (h : pc < 38) : am_ckQ 74 pc = true := by
  exact am_cqk am_cq42 0 rfl (by omega) (by omega)
theorem am_cm75 (pc : Nat) (h : pc < 137) : am_ckQ 75 pc = true := by
  by_cases h0 : pc < 120
  · exact am_cqk am_cq43 0 rfl (by omega) (by omega)
  exact am_cqk am_cq43 1 rfl (by omega) (by omega)
theorem am_cm76 (pc : Nat) (h : pc < 65) : am_ckQ 76 pc = true := by
  exact am_cqk am_cq44 0 rfl (by omega) (by omega)
theorem am_cm77 (pc : Nat) (h : pc < 38) : am_ckQ 77 pc = true := by
  exact am_cqk am_cq44 1 rfl (by omega) (by omega)
theorem am_cm78 (pc : Nat) (h : pc < 18) : am_ckQ 78 pc = true := by
  exact am_cqk am_cq44 2 rfl (by omega) (by omega)
theorem am_cm79 (pc : Nat) (h : pc < 8) : am_ckQ 79 pc = true := by
  exact am_cqk am_cq44 3 rfl (by omega) (by omega)
theorem am_cm80 (pc : Nat) (h : pc < 73) : am_ckQ 80 pc = true := by
  exact am_cqk am_cq45 0 rfl (by omega) (by omega)
theorem am_cm81 (pc : Nat) (h : pc < 44) : am_ckQ 81 pc = true := by
  exact am_cqk am_cq45 1 rfl (by omega) (by omega)
theorem am_cm82 (pc : Nat) (h : pc < 56) : am_ckQ 82 pc = true := by
  exact am_cqk am_cq46 0 rfl (by omega) (by omega)
theorem am_cm83 (pc : Nat) (h : pc < 60) : am_ckQ 83 pc = true := by
  exact am_cqk am_cq46 1 rfl (by omega) (by omega)
theorem am_cm84 (pc : Nat) (h : pc < 45) : am_ckQ 84 pc = true := by
  exact am_cqk am_cq47 0 rfl (by omega) (by omega)
theorem am_cm85 (pc : Nat) (h : pc < 38) : am_ckQ 85 pc = true := by
  exact am_cqk am_cq47 1 rfl (by omega) (by omega)
theorem am_cm86 (pc : Nat) (h : pc < 49) : am_ckQ 86 pc = true := by
  exact am_cqk am_cq47 2 rfl (by omega) (by omega)
theorem am_cm87 (pc : Nat) (h : pc < 149) : am_ckQ 87 pc = true := by
  by_cases h0 : pc < 120
  · exact am_cqk am_cq48 0 rfl (by omega) (by omega)
  exact am_cqk am_cq49 0 rfl (by omega) (by omega)
theorem am_cm88 (pc : Nat) (h : pc < 61) : am_ckQ 88 pc = true := by
  exact am_cqk am_cq49 1 rfl (by omega) (by omega)
theorem am_cm89 (pc : Nat) (h : pc < 42) : am_ckQ 89 pc = true := by
  exact am_cqk am_cq49 2 rfl (by omega) (by omega)
theorem am_cm90 (pc : Nat) (h : pc < 51) : am_ckQ 90 pc = true := by
  exact am_cqk am_cq50 0 rfl (by omega) (by omega)
theorem am_cm91 (pc : Nat) (h : pc < 18) : am_ckQ 91 pc = true := by
  exact am_cqk am_cq50 1 rfl (by omega) (by omega)
theorem am_cm92 (pc : Nat) (h : pc < 32) : am_ckQ 92 pc = true := by
  exact am_cqk am_cq50 2 rfl (by omega) (by omega)
theorem am_cm93 (pc : Nat) (h : pc < 45) : am_ckQ 93 pc = true := by
  exact am_cqk am_cq50 3 rfl (by omega) (by omega)
theorem am_cm94 (pc : Nat) (h : pc < 50) : am_ckQ 94 pc = true := by
  exact am_cqk am_cq51 0 rfl (by omega) (by omega)
theorem am_cm95 (pc : Nat) (h : pc < 109) : am_ckQ 95 pc = true := by
  exact am_cqk am_cq52 0 rfl (by omega) (by omega)
theorem am_cm96 (pc : Nat) (h : pc < 91) : am_ckQ 96 pc = true := by
  exact am_cqk am_cq53 0 rfl (by omega) (by omega)
theorem am_cm97 (pc : Nat) (h : pc < 30) : am_ckQ 97 pc = true := by
  exact am_cqk am_cq53 1 rfl (by omega) (by omega)
theorem am_cm98 (pc : Nat) (h : pc < 58) : am_ckQ 98 pc = true := by
  exact am_cqk am_cq54 0 rfl (by omega) (by omega)
theorem am_cm99 (pc : Nat) (h : pc < 98) : am_ckQ 99 pc = true := by
  exact am_cqk am_cq54 1 rfl (by omega) (by omega)
theorem am_cm100 (pc : Nat) (h : pc < 16) : am_ckQ 100 pc = true := by
  exact am_cqk am_cq54 2 rfl (by omega) (by omega)
theorem am_cm101 (pc : Nat) (h : pc < 8) : am_ckQ 101 pc = true := by
  exact am_cqk am_cq55 0 rfl (by omega) (by omega)
theorem am_cm102 (pc : Nat) (h : pc < 7) : am_ckQ 102 pc = true := by
  exact am_cqk am_cq55 1 rfl (by omega) (by omega)
theorem am_cm103 (pc : Nat) (h : pc < 16) : am_ckQ 103 pc = true := by
  exact am_cqk am_cq55 2 rfl (by omega) (by omega)
theorem am_cm104 (pc : Nat) (h : pc < 207) : am_ckQ 104 pc = true := by
  by_cases h0 : pc < 120
  · exact am_cqk am_cq56 0 rfl (by omega) (by omega)
  exact am_cqk am_cq57 0 rfl (by omega) (by omega)
theorem am_cm105 (pc : Nat) (h : pc < 19) : am_ckQ 105 pc = true := by
  exact am_cqk am_cq57 1 rfl (by omega) (by omega)
theorem am_cm106 (pc : Nat) (h : pc < 10) : am_ckQ 106 pc = true := by
  exact am_cqk am_cq57 2 rfl (by omega) (by omega)
theorem am_cm107 (pc : Nat) (h : pc < 10) : am_ckQ 107 pc = true := by
  exact am_cqk am_cq58 0 rfl (by omega) (by omega)
theorem am_cm108 (pc : Nat) (h : pc < 11) : am_ckQ 108 pc = true := by
  exact am_cqk am_cq58 1 rfl (by omega) (by omega)
theorem am_cm109 (pc : Nat) (h : pc < 22) : am_ckQ 109 pc = true := by
  exact am_cqk am_cq58 2 rfl (by omega) (by omega)
theorem am_cm110 (pc : Nat) (h : pc < 15) : am_ckQ 110 pc = true := by
  exact am_cqk am_cq58 3 rfl (by omega) (by omega)
theorem am_cm111 (pc : Nat) (h : pc < 93) : am_ckQ 111 pc = true := by
  exact am_cqk am_cq59 0 rfl (by omega) (by omega)
theorem am_cm112 (pc : Nat) (h : pc < 16) : am_ckQ 112 pc = true := by
  exact am_cqk am_cq59 1 rfl (by omega) (by omega)
theorem am_cm113 (pc : Nat) (h : pc < 22) : am_ckQ 113 pc = true := by
  exact am_cqk am_cq60 0 rfl (by omega) (by omega)
theorem am_cm114 (pc : Nat) (h : pc < 54) : am_ckQ 114 pc = true := by
  exact am_cqk am_cq60 1 rfl (by omega) (by omega)
theorem am_cm115 (pc : Nat) (h : pc < 12) : am_ckQ 115 pc = true := by
  exact am_cqk am_cq60 2 rfl (by omega) (by omega)
theorem am_cm116 (pc : Nat) (h : pc < 32) : am_ckQ 116 pc = true := by
  exact am_cqk am_cq60 3 rfl (by omega) (by omega)
theorem am_cm117 (pc : Nat) (h : pc < 59) : am_ckQ 117 pc = true := by
  exact am_cqk am_cq61 0 rfl (by omega) (by omega)
theorem am_cm118 (pc : Nat) (h : pc < 52) : am_ckQ 118 pc = true := by
  exact am_cqk am_cq61 1 rfl (by omega) (by omega)
theorem am_cm119 (pc : Nat) (h : pc < 69) : am_ckQ 119 pc = true := by
  exact am_cqk am_cq62 0 rfl (by omega) (by omega)
theorem am_cm120 (pc : Nat) (h : pc < 55) : am_ckQ 120 pc = true := by
  exact am_cqk am_cq62 1 rfl (by omega) (by omega)
theorem am_cm121 (pc : Nat) (h : pc < 46) : am_ckQ 121 pc = true := by
  exact am_cqk am_cq63 0 rfl (by omega) (by omega)
theorem am_cm122 (pc : Nat) (h : pc < 107) : am_ckQ 122 pc = true := by
  exact am_cqk am_cq63 1 rfl (by omega) (by omega)
theorem am_cm123 (pc : Nat) (h : pc < 34) : am_ckQ 123 pc = true := by
  exact am_cqk am_cq64 0 rfl (by omega) (by omega)
theorem am_cm124 (pc : Nat) (h : pc < 103) : am_ckQ 124 pc = true := by
  exact am_cqk am_cq65 0 rfl (by omega) (by omega)
theorem am_cm125 (pc : Nat) (h : pc < 47) : am_ckQ 125 pc = true := by
  exact am_cqk am_cq66 0 rfl (by omega) (by omega)
theorem am_cm126 (pc : Nat) (h : pc < 61) : am_ckQ 126 pc = true := by
  exact am_cqk am_cq66 1 rfl (by omega) (by omega)
theorem am_cm127 (pc : Nat) (h : pc < 64) : am_ckQ 127 pc = true := by
  exact am_cqk am_cq67 0 rfl (by omega) (by omega)
theorem am_cm128 (pc : Nat) (h : pc < 98) : am_ckQ 128 pc = true := by
  exact am_cqk am_cq68 0 rfl (by omega) (by omega)
theorem am_cm129 (pc : Nat) (h : pc < 99) : am_ckQ 129 pc = true := by
  exact am_cqk am_cq69 0 rfl (by omega) (by omega)
theorem am_cm130 (pc : Nat) (h : pc < 50) : am_ckQ 130 pc = true := by
  exact am_cqk am_cq70 0 rfl (by omega) (by omega)
theorem am_cm131 (pc : Nat) (h : pc < 113) : am_ckQ 131 pc = true := by
  exact am_cqk am_cq71 0 rfl (by omega) (by omega)
theorem am_cm132 (pc : Nat) (h : pc < 33) : am_ckQ 132 pc = true := by
  exact am_cqk am_cq72 0 rfl (by omega) (by omega)
theorem am_cm133 (pc : Nat) (h : pc < 71) : am_ckQ 133 pc = true := by
  exact am_cqk am_cq72 1 rfl (by omega) (by omega)
theorem am_cm134 (pc : Nat) (h : pc < 67) : am_ckQ 134 pc = true := by
  exact am_cqk am_cq73 0 rfl (by omega) (by omega)
theorem am_cm135 (pc : Nat) (h : pc < 50) : am_ckQ 135 pc = true := by
  exact am_cqk am_cq73 1 rfl (by omega) (by omega)
theorem am_cm136 (pc : Nat) (h : pc < 46) : am_ckQ 136 pc = true := by
  exact am_cqk am_cq74 0 rfl (by omega) (by omega)
theorem am_cm137 (pc : Nat) (h : pc < 43) : am_ckQ 137 pc = true := by
  exact am_cqk am_cq74 1 rfl (by omega) (by omega)
theorem am_cm138 (pc : Nat) (h : pc < 59) : am_ckQ 138 pc = true := by
  exact am_cqk am_cq75 0 rfl (by omega) (by omega)
theorem am_cm139 (pc : Nat) (h : pc < 36) : am_ckQ 139 pc = true := by
  exact am_cqk am_cq75 1 rfl (by omega) (by omega)
theorem am_cm140 (pc : Nat) (h : pc < 52) : am_ckQ 140 pc = true := by
  exact am_cqk am_cq76 0 rfl (by omega) (by omega)
theorem am_cm141 (pc : Nat) (h : pc < 62) : am_ckQ 141 pc = true := by
  exact am_cqk am_cq76 1 rfl (by omega) (by omega)
theorem am_cm142 (pc : Nat) (h : pc < 48) : am_ckQ 142 pc = true := by
  exact am_cqk am_cq77 0 rfl (by omega) (by omega)
theorem am_cm143 (pc : Nat) (h : pc < 27) : am_ckQ 143 pc = true := by
  exact am_cqk am_cq77 1 rfl (by omega) (by omega)
theorem am_cm144 (pc : Nat) (h : pc < 144) : am_ckQ 144 pc = true := by
  by_cases h0 : pc < 120
  · exact am_cqk am_cq78 0 rfl (by omega) (by omega)
  exact am_cqk am_cq79 0 rfl (by omega) (by omega)
theorem am_cm145 (pc : Nat) (h : pc < 134) : am_ckQ 145 pc = true := by
  by_cases h0 : pc < 120
  · exact am_cqk am_cq80 0 rfl (by omega) (by omega)
  exact am_cqk am_cq80 1 rfl (by omega) (by omega)
theorem am_cm146 (pc : Nat) (h : pc < 67) : am_ckQ 146 pc = true := by
  exact am_cqk am_cq81 0 rfl (by omega) (by omega)
theorem am_cm147 (pc : Nat) (h : pc < 83) : am_ckQ 147 pc = true := by
  exact am_cqk am_cq82 0 rfl (by omega) (by omega)
theorem am_cm148 (pc : Nat) (h : pc < 122) : am_ckQ 148 pc = true := by
  by_cases h0 : pc < 120
  · exact am_cqk am_cq83 0 rfl (by omega) (by omega)
  exact am_cqk am_cq83 1 rfl (by omega) (by omega)
theorem am_cm149 (pc : Nat) (h : pc < 82) : am_ckQ 149 pc = true := by
  exact am_cqk am_cq84 0 rfl (by omega) (by omega)
theorem am_cm150 (pc : Nat) (h : pc < 113) : am_ckQ 150 pc = true := by
  exact am_cqk am_cq85 0 rfl (by omega) (by omega)
theorem am_cm151 (pc : Nat) (h : pc < 67) : am_ckQ 151 pc = true := by
  exact am_cqk am_cq86 0 rfl (by omega) (by omega)
theorem am_cm152 (pc : Nat) (h : pc < 91) : am_ckQ 152 pc = true := by
  exact am_cqk am_cq87 0 rfl (by omega) (by omega)
theorem am_cm153 (pc : Nat) (h : pc < 79) : am_ckQ 153 pc = true := by
  exact am_cqk am_cq88 0 rfl (by omega) (by omega)
theorem am_cm154 (pc : Nat) (h : pc < 12) : am_ckQ 154 pc = true := by
  exact am_cqk am_cq88 1 rfl (by omega) (by omega)
theorem am_cm155 (pc : Nat) (h : pc < 52) : am_ckQ 155 pc = true := by
  exact am_cqk am_cq89 0 rfl (by omega) (by omega)
theorem am_cm156 (pc : Nat) (h : pc < 59) : am_ckQ 156 pc = true := by
  exact am_cqk am_cq89 1 rfl (by omega) (by omega)
theorem am_cm157 (pc : Nat) (h : pc < 44) : am_ckQ 157 pc = true := by
  exact am_cqk am_cq90 0 rfl (by omega) (by omega)
theorem am_cm158 (pc : Nat) (h : pc < 50) : am_ckQ 158 pc = true := by
  exact am_cqk am_cq90 1 rfl (by omega) (by omega)
theorem am_cm159 (pc : Nat) (h : pc < 92) : am_ckQ 159 pc = true := by
  exact am_cqk am_cq91 0 rfl (by omega) (by omega)
theorem am_cm160 (pc : Nat) (h : pc < 36) : am_ckQ 160 pc = true := by
  exact am_cqk am_cq92 0 rfl (by omega) (by omega)
theorem am_cm161 (pc : Nat) (h : pc < 114) : am_ckQ 161 pc = true := by
  exact am_cqk am_cq93 0 rfl (by omega) (by omega)
theorem am_cm162 (pc : Nat) (h : pc < 15) : am_ckQ 162 pc = true := by
  exact am_cqk am_cq93 1 rfl (by omega) (by omega)
theorem am_cm163 (pc : Nat) (h : pc < 18) : am_ckQ 163 pc = true := by
  exact am_cqk am_cq94 0 rfl (by omega) (by omega)
theorem am_cm164 (pc : Nat) (h : pc < 52) : am_ckQ 164 pc = true := by
  exact am_cqk am_cq94 1 rfl (by omega) (by omega)
theorem am_cm165 (pc : Nat) (h : pc < 106) : am_ckQ 165 pc = true := by
  exact am_cqk am_cq95 0 rfl (by omega) (by omega)
theorem am_cm166 (pc : Nat) (h : pc < 34) : am_ckQ 166 pc = true := by
  exact am_cqk am_cq96 0 rfl (by omega) (by omega)
theorem am_cm167 (pc : Nat) (h : pc < 48) : am_ckQ 167 pc = true := by
  exact am_cqk am_cq96 1 rfl (by omega) (by omega)
theorem am_cm168 (pc : Nat) (h : pc < 82) : am_ckQ 168 pc = true := by
  exact am_cqk am_cq97 0 rfl (by omega) (by omega)
theorem am_cm169 (pc : Nat) (h : pc < 37) : am_ckQ 169 pc = true := by
  exact am_cqk am_cq97 1 rfl (by omega) (by omega)
theorem am_cm170 (pc : Nat) (h : pc < 136) : am_ckQ 170 pc = true := by
  by_cases h0 : pc < 120
  · exact am_cqk am_cq98 0 rfl (by omega) (by omega)
  exact am_cqk am_cq98 1 rfl (by omega) (by omega)
theorem am_cm171 (pc : Nat) (h : pc < 229) : am_ckQ 171 pc = true := by
  by_cases h0 : pc < 120
  · exact am_cqk am_cq99 0 rfl (by omega) (by omega)
  exact am_cqk am_cq100 0 rfl (by omega) (by omega)
theorem am_cm172 (pc : Nat) (h : pc < 43) : am_ckQ 172 pc = true := by
  exact am_cqk am_cq101 0 rfl (by omega) (by omega)
theorem am_cm173 (pc : Nat) (h : pc < 24) : am_ckQ 173 pc = true := by
  exact am_cqk am_cq101 1 rfl (by omega) (by omega)
theorem am_cm174 (pc : Nat) (h : pc < 95) : am_ckQ 174 pc = true := by
  exact am_cqk am_cq102 0 rfl (by omega) (by omega)
theorem am_cm175 (pc : Nat) (h : pc < 39) : am_ckQ 175 pc = true := by
  exact am_cqk am_cq102 1 rfl (by omega) (by omega)
theorem am_cm176 (pc : Nat) (h : pc < 44) : am_ckQ 176 pc = true := by
  exact am_cqk am_cq103 0 rfl (by omega) (by omega)
theorem am_cm177 (pc : Nat) (h : pc < 83) : am_ckQ 177 pc = true := by
  exact am_cqk am_cq103 1 rfl (by omega) (by omega)
theorem am_cm178 (pc : Nat) (h : pc < 53) : am_ckQ 178 pc = true := by
  exact am_cqk am_cq104 0 rfl (by omega) (by omega)
theorem am_cm179 (pc : Nat) (h : pc < 11) : am_ckQ 179 pc = true := by
  exact am_cqk am_cq104 1 rfl (by omega) (by omega)
theorem am_cm180 (pc : Nat) (h : pc < 11) : am_ckQ 180 pc = true := by
  exact am_cqk am_cq104 2 rfl (by omega) (by omega)
theorem am_ckQ_all : ∀ j, j < 181 → ∀ pc, pc < am_len j → am_ckQ j pc = true := by
  intro j hj
  match j, hj with
  | 0, _ => exact fun pc h => am_cm0 pc h
  | 1, _ => exact fun pc h => am_cm1 pc h
  | 2, _ => exact fun pc h => am_cm2 pc h
  | 3, _ => exact fun pc h => am_cm3 pc h
  | 4, _ => exact fun pc h => am_cm4 pc h
  | 5, _ => exact fun pc h => am_cm5 pc h
  | 6, _ => exact fun pc h => am_cm6 pc h
  | 7, _ => exact fun pc h => am_cm7 pc h
  | 8, _ => exact fun pc h => am_cm8 pc h
  | 9, _ => exact fun pc h => am_cm9 pc h
  | 10, _ => exact fun pc h => am_cm10 pc h
  | 11, _ => exact fun pc h => am_cm11 pc h
  | 12, _ => exact fun pc h => am_cm12 pc h
  | 13, _ => exact fun pc h => am_cm13 pc h
  | 14, _ => exact fun pc h => am_cm14 pc h
  | 15, _ => exact fun pc h => am_cm15 pc h
  | 16, _ => exact fun pc h => am_cm16 pc h
  | 17, _ => exact fun pc h => am_cm17 pc h
  | 18, _ => exact fun pc h => am_cm18 pc h
  | 19, _ => exact fun pc h => am_cm19 pc h
  | 20, _ => exact fun pc h => am_cm20 pc h
  | 21, _ => exact fun pc h => am_cm21 pc h
  | 22, _ => exact fun pc h => am_cm22 pc h
  | 23, _ => exact fun pc h => am_cm23 pc h
  | 24, _ => exact fun pc h => am_cm24 pc h
  | 25, _ => exact fun pc h => am_cm25 pc h
  | 26, _ => exact fun pc h => am_cm26 pc h
  | 27, _ => exact fun pc h => am_cm27 pc h
  | 28, _ => exact fun pc h => am_cm28 pc h
  | 29, _ => exact fun pc h => am_cm29 pc h
  | 30, _ => exact fun pc h => am_cm30 pc h
  | 31, _ => exact fun pc h => am_cm31 pc h
  | 32, _ => exact fun pc h => am_cm32 pc h
  | 33, _ => exact fun pc h => am_cm33 pc h
  | 34, _ => exact fun pc h => am_cm34 pc h
  | 35, _ => exact fun pc h => am_cm35 pc h
  | 36, _ => exact fun pc h => am_cm36 pc h
  | 37, _ => exact fun pc h => am_cm37 pc h
  | 38, _ => exact fun pc h => am_cm38 pc h
  | 39, _ => exact fun pc h => am_cm39 pc h
  | 40, _ => exact fun pc h => am_cm40 pc h
  | 41, _ => exact fun pc h => am_cm41 pc h
  | 42, _ => exact fun pc h => am_cm42 pc h
  | 43, _ => exact fun pc h => am_cm43 pc h
  | 44, _ => exact fun pc h => am_cm44 pc h
  | 45, _ => exact fun pc h => am_cm45 pc h
  | 46, _ => exact fun pc h => am_cm46 pc h
  | 47, _ => exact fun pc h => am_cm47 pc h
  | 48, _ => exact fun pc h => am_cm48 pc h
  | 49, _ => exact fun pc h => am_cm49 pc h
  | 50, _ => exact fun pc h => am_cm50 pc h
  | 51, _ => exact fun pc h => am_cm51 pc h
  | 52, _ => exact fun pc h => am_cm52 pc h
  | 53, _ => exact fun pc h => am_cm53 pc h
  | 54, _ => exact fun pc h => am_cm54 pc h
  | 55, _ => exact fun pc h => am_cm55 pc h
  | 56, _ => exact fun pc h => am_cm56 pc h
  | 57, _ => exact fun pc h => am_cm57 pc h
  | 58, _ => exact fun pc h => am_cm58 pc h
  | 59, _ => exact fun pc h => am_cm59 pc h
  | 60, _ => exact fun pc h => am_cm60 pc h
  | 61, _ => exact fun pc h => am_cm61 pc h
  | 62, _ => exact fun pc h => am_cm62 pc h
  | 63, _ => exact fun pc h => am_cm63 pc h
  | 64, _ => exact fun pc h => am_cm64 pc h
  | 65, _ => exact fun pc h => am_cm65 pc h
  | 66, _ => exact fun pc h => am_cm66 pc h
  | 67, _ => exact fun pc h => am_cm67 pc h
  | 68, _ => exact fun pc h => am_cm68 pc h
  | 69, _ => exact fun pc h => am_cm69 pc h
  | 70, _ => exact fun pc h => am_cm70 pc h
  | 71, _ => exact fun pc h => am_cm71 pc h
  | 72, _ => exact fun pc h => am_cm72 pc h
  | 73, _ => exact fun pc h => am_cm73 pc h
  | 74, _ => exact fun pc h => am_cm74 pc h
  | 75, _ => exact fun pc h => am_cm75 pc h
  | 76, _ => exact fun pc h => am_cm76 pc h
  | 77, _ => exact fun pc h => am_cm77 pc h
  | 78, _ => exact fun pc h => am_cm78 pc h
  | 79, _ => exact fun pc h => am_cm79 pc h
  | 80, _ => exact fun pc h => am_cm80 pc h
  | 81, _ => exact fun pc h => am_cm81 pc h
  | 82, _ => exact fun pc h => am_cm82 pc h
  | 83, _ => exact fun pc h => am_cm83 pc h
  | 84, _ => exact fun pc h => am_cm84 pc h
  | 85, _ => exact fun pc h => am_cm85 pc h
  | 86, _ => exact fun pc h => am_cm86 pc h
  | 87, _ => exact fun pc h => am_cm87 pc h
  | 88, _ => exact fun pc h => am_cm88 pc h
  | 89, _ => exact fun pc h => am_cm89 pc h
  | 90, _ => exact fun pc h => am_cm90 pc h
  | 91, _ => exact fun pc h => am_cm91 pc h
  | 92, _ => exact fun pc h => am_cm92 pc h
  | 93, _ => exact fun pc h => am_cm93 pc h
  | 94, _ => exact fun pc h => am_cm94 pc h
  | 95, _ => exact fun pc h => am_cm95 pc h
  | 96, _ => exact fun pc h => am_cm96 pc h
  | 97, _ => exact fun pc h => am_cm97 pc h
  | 98, _ => exact fun pc h => am_cm98 pc h
  | 99, _ => exact fun pc h => am_cm99 pc h
  | 100, _ => exact fun pc h => am_cm100 pc h
  | 101, _ => exact fun pc h => am_cm101 pc h
  | 102, _ => exact fun pc h => am_cm102 pc h
  | 103, _ => exact fun pc h => am_cm103 pc h
  | 104, _ => exact fun pc h => am_cm104 pc h
  | 105, _ => exact fun pc h => am_cm105 pc h
  | 106, _ => exact fun pc h => am_cm106 pc h
  | 107, _ => exact fun pc h => am_cm107 pc h
  | 108, _ => exact fun pc h => am_cm108 pc h
  | 109, _ => exact fun pc h => am_cm109 pc h
  | 110, _ => exact fun pc h => am_cm110 pc h
  | 111, _ => exact fun pc h => am_cm111 pc h
  | 112, _ => exact fun pc h => am_cm112 pc h
  | 113, _ => exact fun pc h => am_cm113 pc h
  | 114, _ => exact fun pc h => am_cm114 pc h
  | 115, _ => exact fun pc h => am_cm115 pc h
  | 116, _ => exact fun pc h => am_cm116 pc h
  | 117, _ => exact fun pc h => am_cm117 pc h
  | 118, _ => exact fun pc h => am_cm118 pc h
  | 119, _ => exact fun pc h => am_cm119 pc h
  | 120, _ => exact fun pc h => am_cm120 pc h
  | 121, _ => exact fun pc h => am_cm121 pc h
  | 122, _ => exact fun pc h => am_cm122 pc h
  | 123, _ => exact fun pc h => am_cm123 pc h
  | 124, _ => exact fun pc h => am_cm124 pc h
  | 125, _ => exact fun pc h => am_cm125 pc h
  | 126, _ => exact fun pc h => am_cm126 pc h
  | 127, _ => exact fun pc h => am_cm127 pc h
  | 128, _ => exact fun pc h => am_cm128 pc h
  | 129, _ => exact fun pc h => am_cm129 pc h
  | 130, _ => exact fun pc h => am_cm130 pc h
  | 131, _ => exact fun pc h => am_cm131 pc h
  | 132, _ => exact fun pc h => am_cm132 pc h
  | 133, _ => exact fun pc h => am_cm133 pc h
  | 134, _ => exact fun pc h => am_cm134 pc h
  | 135, _ => exact fun pc h => am_cm135 pc h
  | 136, _ => exact fun pc h => am_cm136 pc h
  | 137, _ => exact fun pc h => am_cm137 pc h
  | 138, _ => exact fun pc h => am_cm138 pc h
  | 139, _ => exact fun pc h => am_cm139 pc h
  | 140, _ => exact fun pc h => am_cm140 pc h
  | 141, _ => exact fun pc h => am_cm141 pc h
  | 142, _ => exact fun pc h => am_cm142 pc h
  | 143, _ => exact fun pc h => am_cm143 pc h
  | 144, _ => exact fun pc h => am_cm144 pc h
  | 145, _ => exact fun pc h => am_cm145 pc h
  | 146, _ => exact fun pc h => am_cm146 pc h
  | 147, _ => exact fun pc h => am_cm147 pc h
  | 148, _ => exact fun pc h => am_cm148 pc h
  | 149, _ => exact fun pc h => am_cm149 pc h
  | 150, _ => exact fun pc h => am_cm150 pc h
  | 151, _ => exact fun pc h => am_cm151 pc h
  | 152, _ => exact fun pc h => am_cm152 pc h
  | 153, _ => exact fun pc h => am_cm153 pc h
  | 154, _ => exact fun pc h => am_cm154 pc h
  | 155, _ => exact fun pc h => am_cm155 pc h
  | 156, _ => exact fun pc h => am_cm156 pc h
  | 157, _ => exact fun pc h => am_cm157 pc h
  | 158, _ => exact fun pc h => am_cm158 pc h
  | 159, _ => exact fun pc h => am_cm159 pc h
  | 160, _ => exact fun pc h => am_cm160 pc h
  | 161, _ => exact fun pc h => am_cm161 pc h
  | 162, _ => exact fun pc h => am_cm162 pc h
  | 163, _ => exact fun pc h => am_cm163 pc h
  | 164, _ => exact fun pc h => am_cm164 pc h
  | 165, _ => exact fun pc h => am_cm165 pc h
  | 166, _ => exact fun pc h => am_cm166 pc h
  | 167, _ => exact fun pc h => am_cm167 pc h
  | 168, _ => exact fun pc h => am_cm168 pc h
  | 169, _ => exact fun pc h => am_cm169 pc h
  | 170, _ => exact fun pc h => am_cm170 pc h
  | 171, _ => exact fun pc h => am_cm171 pc h
  | 172, _ => exact fun pc h => am_cm172 pc h
  | 173, _ => exact fun pc h => am_cm173 pc h
  | 174, _ => exact fun pc h => am_cm174 pc h
  | 175, _ => exact fun pc h => am_cm175 pc h
  | 176, _ => exact fun pc h => am_cm176 pc h
  | 177, _ => exact fun pc h => am_cm177 pc h
  | 178, _ => exact fun pc h => am_cm178 pc h
  | 179, _ => exact fun pc h => am_cm179 pc h
  | 180, _ => exact fun pc h => am_cm180 pc h
  | k + 181, h => exact absurd h (by omega)
theorem am_ok {j pc : Nat} {I : aI} (h : am_in j pc = some I) : am_ckI j pc I = true := by
  unfold am_in at h
  cases hc : (Nat.blt j 181 && Nat.blt pc (am_len j)) with
  | false => rw [hc] at h; cases h
  | true =>
    rw [hc] at h
    have h' : am_tr j pc = some I := h
    rw [Bool.and_eq_true] at hc
    have h1 := am_ckQ_all j (am_nb hc.1) pc (am_nb hc.2)
    unfold am_ckQ at h1
    rw [h'] at h1
    exact h1
theorem am_wd_mem {w : Nat} {c : Cond} (h : am_wd w c = true) : c ∈ am_tb := by
  unfold am_wd at h
  rw [Bool.and_eq_true] at h
  exact List.mem_filter.mpr ⟨List.mem_of_getElem? (of_decide_eq_true h.1), h.2⟩
theorem am_wn_mem {w : Nat} {c : Cond} (h : am_wn w c = true) : c ∈ lw_tbl := List.mem_of_getElem? (of_decide_eq_true h)
