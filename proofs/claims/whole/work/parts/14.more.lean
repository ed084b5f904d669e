theorem isI_of {c n : Nat} (h : sh c = (1, n, [])) : isI c := by unfold isI alen; rw [h]
theorem isJ_of {c n : Nat} (h : sh c = (2, n, [])) : isJ c := by unfold isJ alen; rw [h]
theorem i32l_m1 : (-1 : Int32).toInt = -1 := rfl
theorem i32l_0 : (0 : Int32).toInt = 0 := rfl
theorem i32l_1 : (1 : Int32).toInt = 1 := rfl
theorem i32l_2 : (2 : Int32).toInt = 2 := rfl
theorem i32l_3 : (3 : Int32).toInt = 3 := rfl
theorem i32l_4 : (4 : Int32).toInt = 4 := rfl
theorem i32l_5 : (5 : Int32).toInt = 5 := rfl
theorem i32l_6 : (6 : Int32).toInt = 6 := rfl
theorem i32l_7 : (7 : Int32).toInt = 7 := rfl
theorem i32l_8 : (8 : Int32).toInt = 8 := rfl
theorem i32l_9 : (9 : Int32).toInt = 9 := rfl
theorem i32l_10 : (10 : Int32).toInt = 10 := rfl
theorem i32l_11 : (11 : Int32).toInt = 11 := rfl
theorem i32l_12 : (12 : Int32).toInt = 12 := rfl
theorem i32l_13 : (13 : Int32).toInt = 13 := rfl
theorem i32l_14 : (14 : Int32).toInt = 14 := rfl
theorem i32l_15 : (15 : Int32).toInt = 15 := rfl
theorem i32l_16 : (16 : Int32).toInt = 16 := rfl
theorem i32l_17 : (17 : Int32).toInt = 17 := rfl
theorem i32l_18 : (18 : Int32).toInt = 18 := rfl
theorem i32l_19 : (19 : Int32).toInt = 19 := rfl
theorem i32l_20 : (20 : Int32).toInt = 20 := rfl
theorem i32l_21 : (21 : Int32).toInt = 21 := rfl
theorem i32l_22 : (22 : Int32).toInt = 22 := rfl
theorem i32l_23 : (23 : Int32).toInt = 23 := rfl
theorem i32l_24 : (24 : Int32).toInt = 24 := rfl
theorem i32l_25 : (25 : Int32).toInt = 25 := rfl
theorem i32l_26 : (26 : Int32).toInt = 26 := rfl
theorem i32l_27 : (27 : Int32).toInt = 27 := rfl
theorem i32l_28 : (28 : Int32).toInt = 28 := rfl
theorem i32l_29 : (29 : Int32).toInt = 29 := rfl
theorem i32l_30 : (30 : Int32).toInt = 30 := rfl
theorem i32l_31 : (31 : Int32).toInt = 31 := rfl
theorem i32l_32 : (32 : Int32).toInt = 32 := rfl
theorem i32l_33 : (33 : Int32).toInt = 33 := rfl
theorem i32l_34 : (34 : Int32).toInt = 34 := rfl
theorem i32l_35 : (35 : Int32).toInt = 35 := rfl
theorem i32l_36 : (36 : Int32).toInt = 36 := rfl
theorem i32l_37 : (37 : Int32).toInt = 37 := rfl
theorem i32l_38 : (38 : Int32).toInt = 38 := rfl
theorem i32l_39 : (39 : Int32).toInt = 39 := rfl
theorem i32l_40 : (40 : Int32).toInt = 40 := rfl
theorem i32l_41 : (41 : Int32).toInt = 41 := rfl
theorem i32l_42 : (42 : Int32).toInt = 42 := rfl
theorem i32l_43 : (43 : Int32).toInt = 43 := rfl
theorem i32l_44 : (44 : Int32).toInt = 44 := rfl
theorem i32l_45 : (45 : Int32).toInt = 45 := rfl
theorem i32l_46 : (46 : Int32).toInt = 46 := rfl
theorem i32l_47 : (47 : Int32).toInt = 47 := rfl
theorem i32l_48 : (48 : Int32).toInt = 48 := rfl
theorem i32l_49 : (49 : Int32).toInt = 49 := rfl
theorem i32l_50 : (50 : Int32).toInt = 50 := rfl
theorem i32l_51 : (51 : Int32).toInt = 51 := rfl
theorem i32l_52 : (52 : Int32).toInt = 52 := rfl
theorem i32l_53 : (53 : Int32).toInt = 53 := rfl
theorem i32l_54 : (54 : Int32).toInt = 54 := rfl
theorem i32l_55 : (55 : Int32).toInt = 55 := rfl
theorem i32l_56 : (56 : Int32).toInt = 56 := rfl
theorem i32l_57 : (57 : Int32).toInt = 57 := rfl
theorem i32l_58 : (58 : Int32).toInt = 58 := rfl
theorem i32l_59 : (59 : Int32).toInt = 59 := rfl
theorem i32l_60 : (60 : Int32).toInt = 60 := rfl
theorem i32l_61 : (61 : Int32).toInt = 61 := rfl
theorem i32l_62 : (62 : Int32).toInt = 62 := rfl
theorem i32l_63 : (63 : Int32).toInt = 63 := rfl
theorem i32l_64 : (64 : Int32).toInt = 64 := rfl
theorem lk2 {x : Int32} (h0 : ¬ x.toInt = (8 : Int32).toInt) (h1 : ¬ x.toInt = (16 : Int32).toInt) : Op.lookupswitch.offset (#[(8, 28), (16, 33)] : Array (Int × Int)).toList 38 x.toInt = 38 := by
  have h0 : ¬ x.toInt = 8 := h0
  have h1 : ¬ x.toInt = 16 := h1
  simp [Op.lookupswitch.offset, h0, h1]
  try omega
